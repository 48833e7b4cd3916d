/** Every promise of the document: ordinary inputs, the edges that it names, and wrong inputs. */
public final class PromisesTest extends Asking {
    public static void main(String[] args) {
        constants();
        newObject();
        set();
        fort();
        told();
        lossesByKind();
        risesByKind();
        shelters();
        feed();
        text();
        faults();
        opens();
        meanings();
        force();
        wave();
        spade();
        run();
        bay();
        plan();
        keeps();
        best();
        matters();
        wish();
        game();
        tells();
        film();
        drawn();
        chance();
        imageAndBack();
        count();
        sheet();
        cell();
        copy();
        forts();
        taken();
        strangeArguments();
        end("PromisesTest");
    }

    private static void constants() {
        due("NONE", Sandcastles.NONE, -1);
        due("BAD", Sandcastles.BAD, -2);
        due("STATE", Sandcastles.STATE, -3);
        due("FULL", Sandcastles.FULL, -4);
        due("NO", Sandcastles.NO, -(1L << 62));
    }

    private static void newObject() {
        Sandcastles x = new Sandcastles();
        due("1 count(0)", x.count(0), 0);
        due("1 count(1)", x.count(1), 0);
        due("1 count(2)", x.count(2), 0);
        due("1 count(3)", x.count(3), 1);
        due("1 count(4)", x.count(4), 0);
        due("1 count(5)", x.count(5), 0);
        due("1 told(0, 0)", x.told(0, 0), 0);
        due("1 back()", x.back(), STATE);
        for (int s = 0; s < 4; s++) {
            due("1 cell", x.cell(s, 0, 0), -11);
        }
        x.fort(0, 0, 3);
        x.set(0, 0, 4);
        due("1 strikes by THE RULE", x.told(0, 7), 9 + 4 - 3);
        due("1 raises by THE RULE", x.told(0, 8), 5);
        due("1 worth by THE RULE", x.run(0, 2), 10);
    }

    private static void set() {
        Sandcastles x = new Sandcastles();
        due("2 set MOON, any of", x.set(0, MOST, 9), 0);
        due("2 set MOON again", x.set(0, LEAST, 0), 9);
        due("2 set THE WAVE without forts", x.set(1, 0, 999), 0);
        due("2 set THE WAVE again", x.set(1, 0, 7), 999);
        due("2 no fort", x.set(2, 0, 0), BAD);
        x.fort(3, 4, 5);
        due("2 NUMBER", x.set(2, 0, 9), 4);
        due("2 PLACE", x.set(3, 0, 15), 5);
        due("2 REALM", x.set(4, 0, 1), 0);
        due("2 HEIGHT", x.set(5, 0, 99), 20);
        int[] highest = {9, 999, 9, 15, 1, 99};
        for (int what = 0; what < 6; what++) {
            due("2 as set", x.told(0, what), what == 1 ? 7 : what == 0 ? 0 : highest[what]);
            due("2 too high " + what, x.set(what, 0, highest[what] + 1), BAD);
            due("2 below 0 " + what, x.set(what, 0, -1), BAD);
            due("2 least " + what, x.set(what, 0, LEAST), BAD);
            due("2 to 0 " + what, x.set(what, 0, 0), what == 1 ? 7 : what == 0 ? 0 : highest[what]);
            due("2 to the highest " + what, x.set(what, 0, highest[what]), 0);
        }
        due("2 no such fort", x.set(5, 1, 0), BAD);
        due("2 fort -1", x.set(5, -1, 0), BAD);
        due("2 what 6", x.set(6, 0, 0), BAD);
        due("2 what -1", x.set(-1, 0, 0), BAD);
        due("2 KIND is not set", x.told(0, 6), 3);
    }

    private static void fort() {
        Sandcastles x = new Sandcastles();
        due("3 kind 6", x.fort(6, 0, 0), BAD);
        due("3 kind -1", x.fort(-1, 0, 0), BAD);
        due("3 number 10", x.fort(0, 10, 0), BAD);
        due("3 number -1", x.fort(0, -1, 0), BAD);
        due("3 place 16", x.fort(0, 0, 16), BAD);
        due("3 place -1", x.fort(0, 0, -1), BAD);
        for (int i = 0; i < 8; i++) {
            due("3 fort", x.fort(i % 6, i, 15 - i), i);
            due("3 kind", x.told(i, 6), i % 6);
            due("3 number", x.told(i, 2), i);
            due("3 place", x.told(i, 3), 15 - i);
            due("3 realm", x.told(i, 4), 0);
            due("3 height", x.told(i, 5), 20);
        }
        due("3 full", x.fort(0, 0, 0), FULL);
        due("3 BAD ahead of FULL", x.fort(0, 0, 16), BAD);
        due("3 eight", x.count(0), 8);
    }

    private static void told() {
        Sandcastles x = new Sandcastles();
        due("4 MOON without forts", x.told(MOST, 0), 0);
        due("4 WAVE without forts", x.told(-5, 1), 0);
        for (int what = 2; what < 10; what++) {
            due("4 no fort", x.told(0, what), BAD);
        }
        x.fort(2, 3, 4);
        x.set(0, 0, 6);
        x.set(1, 0, 8);
        int[] want = {6, 8, 3, 4, 0, 20, 2, 9 + 6 - 4, 2, 0};
        for (int what = 0; what < 10; what++) {
            due("4 told " + what, x.told(0, what), want[what]);
        }
        due("4 what 10", x.told(0, 10), BAD);
        due("4 what -1", x.told(0, -1), BAD);
        due("4 fort 1", x.told(1, 5), BAD);
        x.set(5, 0, 0);
        due("4 LOSES of one that doesn't stand", x.told(0, 7), 11);
    }

    private static void lossesByKind() {
        Sandcastles x = by("7 * number + 6", "0", "0");
        // number 3: strikes tell 27, number 9: 69
        int[][] dry = {{27, 13, 0, 16, 0, 24}, {69, 34, 0, 43, 0, 60}};
        int[][] wet = {{27, 13, 27, 16, 54, 24}, {69, 34, 69, 43, 138, 60}};
        for (int kind = 0; kind < 6; kind++) {
            x.fort(kind, 3, 0);
            for (int k = 0; k < 2; k++) {
                int number = k == 0 ? 3 : 9;
                x.set(2, kind, number);
                x.set(1, 0, 2 * (number + 2));
                due("4 loses, dry, kind " + kind, x.told(kind, 7), dry[k][kind]);
                x.set(1, 0, 2 * (number + 2) + 1);
                due("4 loses, kind " + kind, x.told(kind, 7), wet[k][kind]);
            }
        }
        Sandcastles none = by("3", "0", "0");
        none.fort(5, 4, 0);
        due("4 a pail loses 0 at least", none.told(0, 7), 0);
        Sandcastles most = by("9999", "0", "0");
        Sandcastles least = by("0 - 1", "0", "0");
        int[] want = {99, 49, 99, 50, 198, 98};
        int[] wantLeast = {0, 0, 0, 1, 0, 0};
        most.set(1, 0, 1);
        least.set(1, 0, 1);
        for (int kind = 0; kind < 6; kind++) {
            most.fort(kind, 1, 0);
            least.fort(kind, 1, 0);
            due("4 strikes 99 at most, kind " + kind, most.told(kind, 7), want[kind]);
            due("4 strikes 0 at least, kind " + kind, least.told(kind, 7), wantLeast[kind]);
        }
    }

    private static void risesByKind() {
        Sandcastles x = by("0", "7 + number", "0");
        Sandcastles most = by("0", "21", "0");
        Sandcastles least = by("0", "- 1", "0");
        int[] want = {7, 8, 3, 8, 4, 7};
        int[] wantMost = {20, 21, 10, 21, 11, 20};
        int[] wantLeast = {0, 1, 0, 1, 1, 0};
        for (int kind = 0; kind < 6; kind++) {
            x.fort(kind, 0, 0);
            most.fort(kind, 0, 0);
            least.fort(kind, 0, 0);
            due("4 rises, kind " + kind, x.told(kind, 8), want[kind]);
            due("4 raises 20 at most, kind " + kind, most.told(kind, 8), wantMost[kind]);
            due("4 raises 0 at least, kind " + kind, least.told(kind, 8), wantLeast[kind]);
        }
    }

    private static void shelters() {
        Sandcastles x = new Sandcastles();
        for (int kind = 0; kind < 6; kind++) {
            x.fort(kind, 0, 5);
        }
        int near = x.fort(0, 0, 4);
        int far = x.fort(0, 0, 6);
        due("4 shelter, all but the hole", x.told(far, 9), 6);
        due("4 shelter on the same place: none", x.told(0, 9), 1);
        due("4 shelter at the sea", x.told(near, 9), 0);
        x.set(4, 0, 1);
        due("4 the other realm's shelter too", x.told(far, 9), 6);
        x.set(5, 0, 1);
        due("4 height 1 shelters", x.told(far, 9), 6);
        x.set(5, 0, 0);
        due("4 what doesn't stand shelters none", x.told(far, 9), 5);
        x.set(5, far, 0);
        due("4 what doesn't stand is sheltered", x.told(far, 9), 5);
    }

    private static void feed() {
        Sandcastles x = new Sandcastles();
        due("5 -1", x.feed(-1), BAD);
        due("5 256", x.feed(256), BAD);
        due("5 count", x.count(4), 0);
        for (int i = 1; i <= 160; i++) {
            due("5 feed", x.feed(i % 2 == 0 ? 0 : 255), i);
        }
        due("5 full", x.feed(32), FULL);
        due("5 BAD ahead of FULL", x.feed(256), BAD);
        due("5 count", x.count(4), 160);
    }

    private static void text() {
        Sandcastles x = new Sandcastles();
        due("6 empty", x.text(), -100);
        String good = whole("1", "2", "3");
        for (int i = 1; i < 6; i++) {
            due("6 text", read(x, good), i);
            due("6 tape", x.count(4), 0);
            if (i < 5) {
                due("6 fault", read(x, "strikes"), -107);
                due("6 tape by a fault", x.count(4), 0);
            }
            due("6 texts", x.count(3), i + 1);
        }
        for (int i = 0; i < 3; i++) {
            x.feed('?');
        }
        due("6 FULL, also of a fault", x.text(), FULL);
        due("6 the tape stays", x.count(4), 3);
        due("6 a text does not rule at once", x.count(5), 0);
    }

    private static void fault(String text, int place) {
        due("6 [" + text + "]", read(new Sandcastles(), text), -100 - place);
    }

    private static void faults() {
        fault("   ", 3);
        fault("\n\n", 2);
        fault("strikes 1 ; raises 1 ; worth 1", 30);
        fault("strikes 1 ; raises 1 ; worth 1  ", 32);
        fault("strikes 1 ; raises 1 ; worth 1 ; ;", 33);
        fault("strikes 1 ; raises 1 ; worth 1 ;\n?", 33);
        fault("strikes 1 ; raises 1 ; worth 1 ; strikes 1;", 33);
        fault("raises 1 ;", 0);
        fault("strikes 1 ; worth 1 ;", 12);
        fault("strikes ;", 8);
        fault("strikes 1 2 ;", 10);
        fault("strikes 12345 ;", 8);
        fault("strikes 1 + 00001 ;", 12);
        fault("strikes moonwave ;", 8);
        fault("strikes Moon ;", 8);
        fault("strikesmoon", 0);
        fault("strikes moonz ;", 8);
        fault("strikes moona ;", 8);
        fault("strikes noon ;", 8);
        fault("strikes ` ;", 8);
        fault("strikes { ;", 8);
        fault("strikes / ;", 8);
        fault("strikes : ;", 8);
        fault("aaaaaaa 1 ;", 0);
        fault("strikes 1 + worth ;", 12);
        fault("strikes 1 + not 2 ;", 12);
        fault("strikes 1 < 2 < 3 ;", 14);
        fault("strikes 1 = 2 < 3 ;", 14);
        fault("strikes 1 < not 3 ;", 12);
        fault("strikes ( 1 ;", 12);
        fault("strikes ( ) ;", 10);
        fault("strikes 1 ) ;", 10);
        fault("strikes * 1 ;", 8);
        fault("strikes + 1 ;", 8);
        fault("strikes 1 or ;", 13);
        fault("strikes 1 and", 13);
        fault("strikes 1 -", 11);
        fault("strikes not", 11);
        fault("strikes 1\t;", 9);
        fault("strikes 1 > 2 ;", 10);
        fault("strikes 1 ? 12345 ;", 10);
        fault("strikes 1 ; raises 1 ; worth 1 1", 31);
        fault("strikes 1 ; raises " + (char) 255, 19);
        due("6 no blanks needed", read(new Sandcastles(), "strikes-1*moon;raises(1);worth not 1or 2;"), 1);
        due("6 a number ends where digits end", read(new Sandcastles(), "strikes 1or 2;raises 1and 2;worth 9999;"), 1);
        due("6 four digits", read(new Sandcastles(), "\nstrikes 0009;\nraises 0;worth 0 ;\n"), 1);
        due("6 a name ends where letters end", read(new Sandcastles(), "strikes moon(1);"), -112);
    }

    private static void opens() {
        String rest = ";raises 1;worth 1;";
        due("6 five (", read(new Sandcastles(), "strikes ((((( 1 )))))" + rest), 1);
        fault("strikes (((((( 1 ))))))" + rest, 13);
        due("6 five -", read(new Sandcastles(), "strikes ----- 1 - ----- 1" + rest), 1);
        fault("strikes ------ 1" + rest, 13);
        due("6 five not", read(new Sandcastles(), "strikes not not not not not 1 - 1" + rest), 1);
        fault("strikes not not not not not not 1" + rest, 28);
        fault("strikes not not not not not - 1" + rest, 28);
        fault("strikes not not not not not ( 1 )" + rest, 28);
        fault("strikes not not not not not 1 < - 1" + rest, 32);
        due("6 not ends ahead of and", read(new Sandcastles(), "strikes not not not not not 1 and - 1" + rest), 1);
        due("6 - ends ahead of *", read(new Sandcastles(), "strikes - - - - - 1 * - 1" + rest), 1);
        due("6 ( ends at )", read(new Sandcastles(), "strikes ((((1)))) + (((((1)))))" + rest), 1);
        fault("strikes - ( - ( not ( 1 ) ) )" + rest, 20);
        due("6 mixed", read(new Sandcastles(), "strikes - ( - ( not 1 ) )" + rest), 1);
        Sandcastles x = new Sandcastles();
        for (int i = 0; i < 5; i++) {
            due("6 a fault leaves nothing open", read(x, "strikes ((((( 1 ?"), -116);
            due("6 a fault leaves no sum", read(x, "strikes 1+1+1+1+1+1+1+1+1+1+1+1+1+1+1+1+1+1+1+1+1+1+1+1+1+1 ?"), -160);
        }
        due("6 a text behind faults", read(x, "strikes (((((3)))))" + rest), 1);
        x.force(1);
        x.fort(0, 0, 0);
        due("6 what it means", x.told(0, 7), 3);
    }

    private static void means(String e, int v) {
        Sandcastles x = by(e, "0", "0");
        x.fort(0, 4, 7);
        x.fort(0, 0, 6);
        x.set(0, 0, 3);
        x.set(1, 0, 50);
        x.set(5, 0, 30);
        due("6 " + e, x.told(0, 7), v);
    }

    private static void meanings() {
        means("wave", 50);
        means("moon", 3);
        means("place", 7);
        means("number", 4);
        means("height", 30);
        means("shelter", 1);
        means("2 + 3 * 4", 14);
        means("20 - 3 - 4", 13);
        means("20 - (3 - 4)", 21);
        means("- 3 + 10", 7);
        means("- 3 * - 4", 12);
        means("- - 3", 3);
        means("5 or 0", 1);
        means("0 or 0", 0);
        means("5 and 7", 1);
        means("5 and 0", 0);
        means("(0 or 5) + 1", 2);
        means("1 or 1 and 0", 1);
        means("(1 or 1) and 0", 0);
        means("not 0", 1);
        means("not 9", 0);
        means("not not 9", 1);
        means("not 1 < 0", 1);
        means("(not 1) = 0", 1);
        means("not 1 = 0", 1);
        means("not 0 and 0", 0);
        means("2 < 3", 1);
        means("3 < 3", 0);
        means("- 1 < 0", 1);
        means("3 = 3", 1);
        means("3 = 4", 0);
        means("1 + 1 = 2", 1);
        means("height < 31 and 29 < height", 1);
        // 4 * 2 to the 30 wraps to 0, and 2 to the 31 to the least int
        means("4 * 1024 * 1024 * 1024 + 5", 5);
        means("2 * 1024 * 1024 * 1024 < 0", 1);
        means("(2 * 1024 * 1024 * 1024 - 1 < 0) + 2", 2);
        means("- (2 * 1024 * 1024 * 1024) < 0", 1);
        // as much as may wait for what is behind it
        means("0or 1and 1<1+1*(0or 1and 0<0+1*(0or 1and 0<0+1*(0or 1and 0<0+1*(0or 1and 0<0+1*(0or 1and 1<1+1)))))", 1);
        means("200", 99);
        means("100", 99);
        means("99", 99);
        means("- 5", 0);
    }

    private static void force() {
        Sandcastles x = new Sandcastles();
        due("7 text 0", x.force(0), 0);
        due("7 no text 1", x.force(1), BAD);
        due("7 text -1", x.force(-1), BAD);
        due("7 a fault is no text", read(x, "strikes 1 ;"), -111);
        due("7 no text 1", x.force(1), BAD);
        read(x, whole("1", "2", "3"));
        x.fort(0, 0, 0);
        due("7 by text 0", x.told(0, 7), 9);
        due("7 text 1", x.force(1), 0);
        due("7 by text 1", x.told(0, 7), 1);
        due("7 raises by text 1", x.told(0, 8), 2);
        due("7 worth by text 1", x.run(0, 2), 3);
        due("7 text 0 again", x.force(0), 1);
        due("7 no text 6", x.force(6), BAD);
        due("7 rule", x.count(5), 0);
    }

    private static void wave() {
        Sandcastles x = new Sandcastles();
        due("8 none", x.wave(), 0);
        due("8 THE WAVE", x.count(2), 1);
        put(x, 0, 0, 9);
        put(x, 1, 0, 8);
        // fort 0 shelters fort 1 while the wave comes, though it falls by it
        due("8 wave", x.wave(), 2);
        due("8 height", x.told(0, 5), 0);
        due("8 height", x.told(1, 5), 1);
        due("8 what doesn't stand loses no more", x.wave(), 0);
        due("8 0 at least", x.told(1, 5), 0);
        x.set(1, 0, 998);
        due("8 to 999", x.wave(), 0);
        put(x, 0, 0, 50);
        due("8 at 999", x.wave(), STATE);
        due("8 nothing changes", x.told(2, 5), 50);
        due("8 nothing changes", x.count(2), 999);
    }

    private static void spade() {
        Sandcastles x = new Sandcastles();
        due("9 none", x.spade(0), BAD);
        x.fort(1, 0, 0);
        due("9 spade", x.spade(0), 26);
        due("9 height", x.told(0, 5), 26);
        x.set(5, 0, 0);
        due("9 one that doesn't stand", x.spade(0), 6);
        x.set(5, 0, 98);
        due("9 99 at most", x.spade(0), 99);
        due("9 no fort 1", x.spade(1), BAD);
        due("9 no fort -1", x.spade(-1), BAD);
        due("9 THE WAVE is as it was", x.count(2), 0);
    }

    private static void run() {
        Sandcastles x = by("1 + (999 < wave)", "5", "height");
        put(x, 0, 0, 30);
        put(x, 0, 1, 20);
        due("10 standing now", x.run(0, 0), 3);
        due("10 value now", x.run(0, 2), 10);
        due("10 20 waves", x.run(20, 0), 1);
        due("10 19 waves", x.run(19, 0), 3);
        due("10 bay", x.run(20, 1), 0);
        due("10 value", x.run(29, 2), 1);
        due("10 height", x.run(29, 10), 1);
        due("10 height", x.run(40, 10), 0);
        due("10 other height", x.run(5, 11), 15);
        due("10 in thought", x.count(2), 0);
        due("10 in thought", x.told(0, 5), 30);
        x.set(1, 0, 999);
        due("10 THE WAVE may pass 999", x.run(3, 10), 30 - 1 - 2 - 2);
        due("10 n -1", x.run(-1, 0), REFUSED);
        due("10 n 41", x.run(41, 0), REFUSED);
        due("10 what -1", x.run(0, -1), REFUSED);
        due("10 what 3", x.run(0, 3), REFUSED);
        due("10 what 9", x.run(0, 9), REFUSED);
        due("10 what 12", x.run(0, 12), REFUSED);
        due("10 what least", x.run(0, LEAST), REFUSED);
        due("10 what most", x.run(0, MOST), REFUSED);
        Sandcastles worth = by("0", "0", "200 * number - 100");
        worth.fort(0, 1, 0);
        due("10 worth 99 at most", worth.run(0, 2), 99);
        worth.fort(0, 0, 0);
        due("10 worth 0 at least", worth.run(0, 2), 99);
        worth.set(4, 0, 1);
        due("10 less the other's", worth.run(0, 2), -99);
        worth.set(5, 0, 0);
        due("10 of those that stand", worth.run(0, 2), 0);
    }

    private static void bay() {
        Sandcastles x = new Sandcastles();
        due("10 no fort", x.run(0, 1), NONE);
        put(x, 0, 1, 1);
        due("10 one of realm 1", x.run(0, 1), 1);
        put(x, 0, 0, 2);
        due("10 one each, higher", x.run(0, 1), 0);
        x.set(5, 1, 1);
        due("10 alike", x.run(0, 1), NONE);
        put(x, 0, 1, 0);
        due("10 one that doesn't stand", x.run(0, 1), NONE);
        x.set(5, 2, 1);
        x.set(5, 1, 99);
        due("10 more stand, though lower", x.run(0, 1), 1);
    }

    private static void plan() {
        Sandcastles x = by("7", "5 + wave", "height");
        put(x, 0, 0, 20);
        put(x, 0, 1, 20);
        due("11 missing", x.plan(0, 0), REFUSED);
        Sandcastles bare = new Sandcastles();
        row(bare, 0, 0, -1, -1);
        due("11 no forts", bare.plan(0, 2), 0);
        row(x, 0, 0, 0, -1, 1, 0);
        // fort 0: 20 + 5 - 7, - 7, - 7, + 8 - 7 = 5; fort 1: 20 - 7 - 7 + 7 - 7 - 7 = 0 at last
        due("11 height", x.plan(0, 10), 5);
        due("11 height", x.plan(0, 11), 0);
        due("11 standing", x.plan(0, 0), 1);
        due("11 bay", x.plan(0, 1), 0);
        due("11 value", x.plan(0, 2), 5);
        due("11 in thought", x.told(0, 5), 20);
        due("11 in thought", x.count(2), 0);
        x.sheet(1, 2, 0);
        due("11 no waves", x.plan(1, 10), 20);
        for (int sort = 0; sort < 3; sort++) {
            row(x, 2, sort, -1, 1);
            due("11 sort " + sort, x.plan(2, 11), 20 - 7 + 6 - 7);
            row(x, 2, sort, -1, 2);
            due("11 no such fort, at the end", x.plan(2, 0), REFUSED);
            row(x, 2, sort, -2);
            due("11 no such fort", x.plan(2, 0), REFUSED);
        }
        x.set(5, 0, 98);
        row(x, 3, 0, 0);
        due("11 99 at most", x.plan(3, 10), 92);
        due("11 sheet 4", x.plan(4, 0), REFUSED);
        due("11 sheet -1", x.plan(-1, 0), REFUSED);
        due("11 what 3", x.plan(0, 3), REFUSED);
        due("11 what 12", x.plan(0, 12), REFUSED);
        due("11 what -1", x.plan(0, -1), REFUSED);
        row(x, 3, 0, new int[40]);
        // from the wave on by which a spade raises 7 and more, fort 0 has 99 ahead of each wave
        due("11 forty waves", x.plan(3, 10), 92);
    }

    private static void keeps() {
        Sandcastles x = new Sandcastles();
        put(x, 0, 0, 20);
        due("12 0 waves", x.keeps(0, 0), 0);
        due("12 2 waves", x.keeps(0, 2), 0);
        due("12 3 waves", x.keeps(0, 3), 8);
        due("12 10 waves", x.keeps(0, 10), 71);
        due("12 11 waves: 100 would be due", x.keeps(0, 11), NONE);
        x.set(5, 0, 0);
        due("12 0 waves, lies", x.keeps(0, 0), 1);
        x.set(5, 0, 99);
        due("12 99", x.keeps(0, 10), 0);
        due("12 n 41", x.keeps(0, 41), BAD);
        due("12 n -1", x.keeps(0, -1), BAD);
        due("12 fort 1", x.keeps(1, 0), BAD);
        due("12 fort -1", x.keeps(-1, 0), BAD);
        Sandcastles odd = by("99 * (height = 30 or height < 25)", "0", "0");
        put(odd, 0, 0, 30);
        due("12 the least, not the highest that fails", odd.keeps(0, 1), 1);
        due("12 in thought", odd.told(0, 5), 30);
        Sandcastles later = by("5 + wave", "0", "0");
        put(later, 0, 0, 1);
        due("12 each from now", later.keeps(0, 2), 11);
    }

    private static void best() {
        Sandcastles x = by("10 - place + 3 * (place = 9) - (place = 4) * 6 + (10 < place) * 50", "0", "0");
        put(x, 0, 0, 20);
        due("13 place", x.best(0, 1, 0), 4);
        due("13 height", x.best(0, 1, 1), 20);
        due("13 of like ones the first", x.best(0, 0, 0), 0);
        due("13 now", x.best(0, 0, 1), 20);
        due("13 all fall", x.best(0, 40, 0), 4);
        x.set(5, 0, 0);
        due("13 lies", x.best(0, 1, 0), 0);
        due("13 lies", x.best(0, 1, 1), 0);
        due("13 in thought", x.told(0, 3), 0);
        due("13 what 2", x.best(0, 0, 2), BAD);
        due("13 what -1", x.best(0, 0, -1), BAD);
        due("13 n 41", x.best(0, 41, 0), BAD);
        due("13 n -1", x.best(0, -1, 0), BAD);
        due("13 fort 1", x.best(1, 0, 0), BAD);
        Sandcastles last = by("20 - place", "0", "0");
        put(last, 3, 0, 20);
        due("13 the last place", last.best(0, 1, 0), 15);
        due("13 the last place", last.best(0, 1, 1), 15);
    }

    private static void matters() {
        Sandcastles x = by("20 - 3 * shelter", "0", "0");
        put(x, 9, 0, 60);
        put(x, 8, 1, 90);
        put(x, 7, 0, 20);
        put(x, 6, 0, 90);
        due("14 alike behind one wave: the first", x.matters(0, 1, 0), 2);
        due("14 height then", x.matters(0, 1, 1), 60 - 14);
        due("14 the one that stands longer", x.matters(0, 3, 0), 3);
        due("14 none shelters it", x.matters(3, 1, 0), NONE);
        due("14 as so", x.matters(3, 1, 1), 70);
        due("14 the other realm's does not count", x.matters(1, 1, 0), NONE);
        due("14 0 waves", x.matters(0, 0, 0), NONE);
        due("14 as so, now", x.matters(0, 0, 1), 60);
        due("14 in thought", x.told(2, 5), 20);
        Sandcastles first = by("20 - 3 * shelter", "0", "0");
        put(first, 0, 0, 60);
        put(first, 1, 0, 60);
        due("14 the first fort", first.matters(1, 2, 0), 0);
        due("14 without it", first.matters(1, 2, 1), 20);
        due("14 fort 4", x.matters(4, 0, 0), BAD);
        due("14 fort -1", x.matters(-1, 0, 0), BAD);
        due("14 n 41", x.matters(0, 41, 0), BAD);
        due("14 n -1", x.matters(0, -1, 0), BAD);
        due("14 what 2", x.matters(0, 0, 2), BAD);
        due("14 what -1", x.matters(0, 0, -1), BAD);
    }

    private static void wish() {
        Sandcastles x = by("5", "0", "place");
        put(x, 3, 0, 40);
        put(x, 7, 1, 40);
        put(x, 9, 1, 40);
        put(x, 9, 1, 40);
        due("15 the dearest, the first of like ones", x.wish(0, 2, 0), 2);
        due("15 value then", x.wish(0, 2, 1), 3 - 7 - 9);
        due("15 realm 1", x.wish(1, 2, 0), 0);
        due("15 value of realm 1", x.wish(1, 2, 1), 25);
        due("15 all fall", x.wish(0, 40, 0), NONE);
        due("15 as so", x.wish(0, 40, 1), 0);
        due("15 in thought", x.told(2, 5), 40);
        due("15 realm 2", x.wish(2, 0, 0), REFUSED);
        due("15 realm -1", x.wish(-1, 0, 0), REFUSED);
        due("15 n 41", x.wish(0, 41, 0), REFUSED);
        due("15 n -1", x.wish(0, -1, 0), REFUSED);
        due("15 what 2", x.wish(0, 0, 2), REFUSED);
        due("15 what -1", x.wish(0, 0, -1), REFUSED);
        x.set(5, 1, 0);
        x.set(5, 2, 0);
        x.set(5, 3, 0);
        Sandcastles own = by("10", "0", "50 * (shelter = 0) * place");
        put(own, 0, 0, 20);
        put(own, 1, 0, 20);
        put(own, 15, 1, 20);
        due("15 not one of its own", own.wish(0, 0, 0), NONE);
        Sandcastles high = by("10", "0", "height");
        put(high, 0, 0, 30);
        put(high, 0, 1, 15);
        put(high, 0, 1, 40);
        due("15 behind the waves", high.wish(0, 2, 0), 2);
        due("15 behind the waves", high.wish(0, 2, 1), 10);
        due("15 now", high.wish(0, 0, 1), 15);
        due("15 none stands", x.wish(0, 0, 0), NONE);
        due("15 as so, now", x.wish(0, 0, 1), 3);
    }

    private static void game() {
        Sandcastles x = by("10", "5", "height");
        due("16 no forts", x.game(3, 0), 0);
        due("16 no forts", x.game(3, 1), NONE);
        put(x, 0, 0, 12);
        put(x, 0, 0, 30);
        put(x, 0, 1, 25);
        // ahead of one wave each realm's own 5 come: 7 + 20 - 20
        due("16 one wave", x.game(1, 0), 7 + 20 - 20);
        due("16 the first of like ones", x.game(1, 1), 0);
        // fort 0 may be given up: 30 + 5 + 5 - 20 = 20, or kept: (12 + 10 - 20) + 10 = 12
        due("16 two waves", x.game(2, 0), 20 - 15);
        due("16 two waves, first", x.game(2, 1), 1);
        // the last spade comes too late for none of: 30 + 15 - 30; 25 + 15 - 30
        due("16 three waves", x.game(3, 0), 5);
        due("16 three waves, first", x.game(3, 1), 1);
        due("16 in thought", x.told(1, 5), 30);
        due("16 in thought", x.count(2), 0);
        due("16 n 0", x.game(0, 0), REFUSED);
        due("16 n 4", x.game(4, 0), REFUSED);
        due("16 n -1", x.game(-1, 0), REFUSED);
        due("16 what 2", x.game(1, 2), REFUSED);
        due("16 what -1", x.game(1, -1), REFUSED);
        Sandcastles none = by("0", "5", "99 - height");
        put(none, 0, 0, 50);
        due("16 none where a spade harms", none.game(1, 1), NONE);
        due("16 value", none.game(1, 0), 49);
        Sandcastles risen = by("5", "6", "10");
        put(risen, 0, 0, 0);
        due("16 one that doesn't stand is raised", risen.game(1, 1), 0);
        due("16 and stands", risen.game(1, 0), 10);
        Sandcastles other = by("9", "5", "10");
        put(other, 0, 1, 5);
        due("16 realm 1 keeps its own", other.game(1, 0), -10);
        due("16 realm 0 has none", other.game(1, 1), NONE);
    }

    private static void tells() {
        Sandcastles x = new Sandcastles();
        x.fort(0, 3, 2);
        x.set(5, 0, 60);
        x.set(1, 0, 1);
        due("17 missing", x.tells(0, 0, 0), -11);
        row(x, 0, 1, 53, 46, 39);
        due("17 as told", x.tells(0, 0, 0), NONE);
        due("17 kinds: a hole too, waves 1 to 3", x.tells(0, 0, 1), 1 + 4);
        due("17 numbers", x.tells(0, 0, 2), 1023);
        due("17 moons", x.tells(0, 0, 3), 1);
        due("17 places", x.tells(0, 0, 4), 4);
        due("17 texts", x.tells(0, 0, 5), 1);
        read(x, whole("9 + moon - 2 + (wave = 3)", "0", "0"));
        read(x, whole("7", "0", "0"));
        due("17 texts", x.tells(0, 0, 5), 5);
        x.cell(0, 2, 38);
        due("17 texts", x.tells(0, 0, 5), 2);
        due("17 first other", x.tells(0, 0, 0), 2);
        x.cell(0, 0, 54);
        due("17 first other", x.tells(0, 0, 0), 0);
        due("17 no kind", x.tells(0, 0, 1), 0);
        x.sheet(1, 2, 0);
        int[] all = {NONE, 63, 1023, 1023, 65535, 7};
        for (int what = 0; what < 6; what++) {
            due("17 nothing told " + what, x.tells(1, 0, what), all[what]);
        }
        x.force(2);
        due("17 text 0 too, while another rules", x.tells(1, 0, 5), 7);
        row(x, 2, 0, 51, 42);
        x.set(3, 0, 0);
        due("17 text 0, while another rules", x.tells(2, 0, 5), 1);
        x.set(3, 0, 2);
        x.force(0);
        x.sheet(2, -1, 0);
        due("17 in thought", x.told(0, 5), 60);
        due("17 sheet 4", x.tells(4, 0, 0), BAD);
        due("17 sheet -1", x.tells(-1, 0, 0), BAD);
        due("17 fort 1", x.tells(0, 1, 0), BAD);
        due("17 what 6", x.tells(0, 0, 6), BAD);
        due("17 what -1", x.tells(0, 0, -1), BAD);
        due("17 BAD ahead of -11", x.tells(2, 1, 0), BAD);
        due("17 BAD ahead of -11", x.tells(2, 0, 6), BAD);
        // pails lose less by their number: 60 - (7 - 3)
        row(x, 3, 0, 56);
        due("17 a pail", x.tells(3, 0, 1), 32);
    }

    private static void film() {
        Sandcastles x = new Sandcastles();
        put(x, 0, 0, 20);
        due("18 film", x.film(0, 0, 3), 3);
        due("18 as told", x.tells(0, 0, 0), NONE);
        due("18 three numbers", x.cell(0, 2, 0), 1);
        due("18 no fourth", x.cell(0, 3, 0), -12);
        due("18 it told 2 there", x.tells(0, 0, 0), NONE);
        x.film(0, 0, 2);
        x.sheet(1, 0, 2);
        due("18 bytes", x.copy(0, 0, 1, 0, 2), 2);
        row(x, 2, 2, 11, 2);
        due("18 of no other sort", x.copy(0, 0, 2, 0, 2), -13);
        due("18 the numbers", x.tells(2, 0, 0), NONE);
        due("18 the same by copy", x.tells(1, 0, 0), NONE);
        due("18 forty", x.film(3, 0, 40), 40);
        due("18 none", x.film(3, 0, 0), 0);
        due("18 empty", x.cell(3, 0, 0), -12);
        due("18 in thought", x.told(0, 5), 20);
        due("18 n 41", x.film(0, 0, 41), BAD);
        due("18 n -1", x.film(0, 0, -1), BAD);
        due("18 sheet 4", x.film(4, 0, 0), BAD);
        due("18 sheet -1", x.film(-1, 0, 0), BAD);
        due("18 fort 1", x.film(0, 1, 0), BAD);
        due("18 nothing changed", x.tells(0, 0, 0), NONE);
    }

    private static void drawn() {
        Sandcastles x = by("5 * moon", "0", "0");
        // seed 0: z is 12345, then -740551042; so MOON is 24 % 10, then 6942219 % 10
        put(x, 0, 0, 20);
        put(x, 0, 0, 65);
        put(x, 0, 0, 66);
        due("19 one wave", x.drawn(0, 1), 6);
        due("19 two waves", x.drawn(0, 2), 4);
        x.set(5, 0, 99);
        x.set(1, 0, 0);
        due("19 no wave", x.drawn(MOST, 0), 7);
        due("19 in thought", x.told(0, 0), 0);
        due("19 in thought", x.told(0, 5), 99);
        due("19 n 41", x.drawn(0, 41), BAD);
        due("19 n -1", x.drawn(0, -1), BAD);
        due("19 forty", x.drawn(-1, 40) < 0 ? 1 : 0, 0);
    }

    private static void chance() {
        Sandcastles x = by("9 + (4 < moon)", "0", "0");
        put(x, 0, 0, 10);
        boolean halved = false;
        for (int n = 1; n <= 20; n++) {
            int stand = 0;
            for (int seed = -7; seed < n - 7; seed++) {
                stand += x.drawn(seed, 1);
            }
            int shared = n;
            while (stand % shared != 0 || n % shared != 0) {
                shared--;
            }
            halved |= shared == 2 && stand > 0;
            due("20 above, " + n, x.chance(-7, n, 1, 0), stand / shared);
            due("20 below, " + n, x.chance(-7, n, 1, 1), n / shared);
        }
        due("20 once both are halved", halved ? 1 : 0, 1);
        due("20 all", x.chance(5, 20, 0, 0), 1);
        due("20 all", x.chance(5, 20, 0, 1), 1);
        due("20 none", x.chance(5, 20, 40, 0), 0);
        due("20 none", x.chance(5, 20, 40, 1), 1);
        due("20 the seeds wrap", x.chance(MOST, 2, 1, 0) * 2 / x.chance(MOST, 2, 1, 1), x.drawn(MOST, 1) + x.drawn(LEAST, 1));
        due("20 n 0", x.chance(0, 0, 0, 0), Sandcastles.NO);
        due("20 n 21", x.chance(0, 21, 0, 0), Sandcastles.NO);
        due("20 n -1", x.chance(0, -1, 0, 0), Sandcastles.NO);
        due("20 waves 41", x.chance(0, 1, 41, 0), Sandcastles.NO);
        due("20 waves -1", x.chance(0, 1, -1, 0), Sandcastles.NO);
        due("20 part 2", x.chance(0, 1, 0, 2), Sandcastles.NO);
        due("20 part -1", x.chance(0, 1, 0, -1), Sandcastles.NO);
        due("20 in thought", x.told(0, 5), 10);
        x.set(4, 0, 1);
        due("20 of realm 0 alone", x.chance(5, 20, 0, 0), 0);
    }

    private static void imageAndBack() {
        Sandcastles x = new Sandcastles();
        due("22 none", x.back(), STATE);
        due("21 of no forts", x.image(), 0);
        x.fort(0, 0, 0);
        due("22 it goes", x.back(), 0);
        due("22 no fort", x.told(0, 5), BAD);
        x.fort(1, 2, 3);
        x.fort(4, 5, 6);
        x.set(0, 0, 7);
        x.set(1, 0, 8);
        x.set(4, 1, 1);
        x.set(5, 1, 9);
        read(x, whole("1", "2", "3"));
        x.force(1);
        due("21 image", x.image(), 2);
        x.set(0, 0, 1);
        x.set(1, 0, 2);
        for (int f = 0; f < 2; f++) {
            x.set(2, f, 0);
            x.set(3, f, 0);
            x.set(4, f, 0);
            x.set(5, f, 0);
        }
        x.force(0);
        x.fort(0, 0, 0);
        x.set(4, 2, 1);
        read(x, whole("4", "5", "6"));
        x.feed('a');
        x.sheet(0, 0, 5);
        for (int time = 0; time < 2; time++) {
            due("22 back", x.back(), 2);
            int[][] want = {{7, 8, 2, 3, 0, 20, 1}, {7, 8, 5, 6, 1, 9, 4}};
            for (int f = 0; f < 2; f++) {
                for (int what = 0; what < 7; what++) {
                    due("22 told", x.told(f, what), want[f][what]);
                }
            }
            due("22 the rule", x.count(5), 1);
            due("22 the third is gone", x.told(2, 5), BAD);
            due("22 the texts stay", x.count(3), 3);
            due("22 the tape stays", x.count(4), 1);
            due("22 the sheets stay", x.cell(0, 4, 1), 1);
            x.wave();
            x.spade(0);
        }
        due("3 a fort that comes behind back()", x.fort(5, 1, 1), 2);
        due("3 its realm", x.told(2, 4), 0);
        due("3 its height", x.told(2, 5), 20);
        due("3 its kind", x.told(2, 6), 5);
    }

    private static void count() {
        Sandcastles x = by("30", "0", "0");
        put(x, 0, 0, 10);
        put(x, 0, 1, 50);
        x.wave();
        x.feed(1);
        int[] want = {2, 1, 1, 2, 1, 1};
        for (int what = 0; what < 6; what++) {
            due("23 count " + what, x.count(what), want[what]);
        }
        due("23 count 6", x.count(6), BAD);
        due("23 count -1", x.count(-1), BAD);
    }

    private static void sheet() {
        Sandcastles x = new Sandcastles();
        due("24 sheet 4", x.sheet(4, 0, 0), BAD);
        due("24 sheet -1", x.sheet(-1, 0, 0), BAD);
        due("24 sort 3", x.sheet(0, 3, 0), BAD);
        due("24 sort -2", x.sheet(0, -2, 0), BAD);
        due("24 n 41", x.sheet(0, 0, 41), BAD);
        due("24 n -1", x.sheet(0, 0, -1), -14);
        due("24 BAD ahead of -14", x.sheet(0, 3, -1), BAD);
        due("24 still missing", x.cell(0, 0, 0), -11);
        due("24 forty", x.sheet(0, 2, 40), 1);
        due("24 item 39", x.cell(0, 39, 1), 1);
        due("24 item 40", x.cell(0, 40, 1), -12);
        x.fort(0, 0, 0);
        x.set(5, 0, 0);
        due("24 item 0", x.cell(0, 0, 1), 1);
        due("24 all but two were 0", x.tells(0, 0, 0), 0);
        due("24 item 0", x.cell(0, 0, 0), 1);
        due("24 all but one were 0", x.tells(0, 0, 0), 39);
        due("24 item 0", x.cell(0, 0, 1), 1);
        due("24 anew", x.sheet(0, 2, 40), 1);
        due("24 all are 0 anew", x.tells(0, 0, 0), NONE);
        due("24 empty", x.sheet(0, 1, 0), 1);
        due("24 no item", x.cell(0, 0, 0), -12);
        due("24 missing, any n", x.sheet(0, -1, 41), 1);
        due("24 missing, any n", x.sheet(0, -1, LEAST), 1);
        due("24 missing", x.cell(0, 0, 0), -11);
    }

    private static void cell() {
        Sandcastles x = new Sandcastles();
        put(x, 0, 0, 0);
        int[] spilled = {256, 65536, 0};
        for (int sort = 0; sort < 3; sort++) {
            x.sheet(0, sort, 2);
            due("25 cell", x.cell(0, 1, 1), 1);
            due("25 it is", x.tells(0, 0, 0), 1);
            due("25 lowest bits", x.cell(0, 1, spilled[sort]), 1);
            due("25 lowest bits", x.tells(0, 0, 0), NONE);
            due("25 the highest of them is a sign", x.cell(0, 1, sort == 0 ? 255 : sort == 1 ? 65535 : -1), 1);
            due("25 so it is NONE", x.plan(0, 0), 0);
            due("25 not of the lowest bits", x.cell(0, 1, sort == 0 ? 128 : sort == 1 ? 256 : 65536), 1);
            due("25 it is", x.tells(0, 0, 0), 1);
            due("25 item 2", x.cell(0, 2, 0), -12);
            due("25 item -1", x.cell(0, -1, 0), -12);
        }
        due("25 sheet 4", x.cell(4, 0, 0), BAD);
        due("25 sheet -1", x.cell(-1, 0, 0), BAD);
        due("25 missing", x.cell(1, -1, 0), -11);
    }

    private static void copy() {
        Sandcastles x = new Sandcastles();
        put(x, 0, 0, 99);
        // 99, 90, 81, .. behind the waves
        x.film(0, 0, 6);
        x.sheet(1, 0, 3);
        due("26 copy", x.copy(0, 0, 1, 0, 3), 3);
        due("26 as they were", x.tells(1, 0, 0), NONE);
        due("26 upward, over itself", x.copy(0, 0, 0, 2, 4), 4);
        x.copy(0, 2, 1, 0, 3);
        due("26 as they were ahead", x.tells(1, 0, 0), NONE);
        x.film(0, 0, 6);
        due("26 downward, over itself", x.copy(0, 1, 0, 0, 5), 5);
        due("26 back again", x.copy(0, 0, 0, 1, 5), 5);
        x.cell(0, 0, 90);
        due("26 as they were ahead", x.tells(0, 0, 0), NONE);
        due("26 none, at the end", x.copy(0, 6, 1, 3, 0), 0);
        due("26 none, behind the end", x.copy(0, 7, 1, 0, 0), -12);
        due("26 none, behind the other's end", x.copy(0, 0, 1, 4, 0), -12);
        due("26 one too many", x.copy(0, 4, 1, 0, 3), -12);
        due("26 one too many there", x.copy(0, 0, 1, 1, 3), -12);
        due("26 i -1", x.copy(0, -1, 1, 0, 1), -12);
        due("26 j -1", x.copy(0, 0, 1, -1, 1), -12);
        due("26 n -1", x.copy(0, 1, 1, 1, -1), -12);
        due("26 n most", x.copy(0, 1, 1, 1, MOST), -12);
        due("26 i most", x.copy(0, MOST, 1, 1, MOST), -12);
        due("26 n least", x.copy(0, LEAST, 1, LEAST, LEAST), -12);
        due("26 missing", x.copy(0, 0, 2, 0, 1), -11);
        due("26 missing", x.copy(2, 0, 0, 0, 1), -11);
        x.sheet(3, 1, 3);
        due("26 unlike", x.copy(0, 0, 3, 0, 3), -13);
        due("26 unlike, ahead of -12", x.copy(3, 9, 0, 9, -1), -13);
        due("26 missing, ahead of -12", x.copy(2, -1, 3, 0, 1), -11);
        due("26 sheet 4", x.copy(4, 0, 0, 0, 0), BAD);
        due("26 other -1", x.copy(0, 0, -1, 0, 0), BAD);
        due("26 BAD ahead of -11", x.copy(2, 0, 4, 0, 0), BAD);
    }

    private static void forts() {
        Sandcastles x = new Sandcastles();
        due("27 missing, none asked", x.forts(0, 0, 0, 0), -11);
        row(x, 0, 1, 7, 4, 5, 6, 6, 0, 0, 3, 2, 11);
        due("27 forts", x.forts(0, 1, 1, 3), 2);
        due("27 two", x.count(0), 2);
        due("27 kind", x.told(0, 6), 4);
        due("27 number", x.told(0, 2), 5);
        due("27 place", x.told(0, 3), 6);
        due("27 kind", x.told(1, 6), 3);
        due("27 number", x.told(1, 2), 2);
        due("27 place", x.told(1, 3), 11);
        due("27 none asked, any from", x.forts(0, 1, 99, 0), 0);
        due("27 what stood ahead came", x.forts(0, 1, 7, 2), -12);
        due("27 what stood ahead came", x.count(0), 3);
        due("27 two thirds of one", x.forts(0, 1, 8, 1), -12);
        due("27 from -1", x.forts(0, 1, -1, 1), -12);
        due("27 from most", x.forts(0, 1, MOST, 8), -12);
        due("27 from least", x.forts(0, 1, LEAST, 8), -12);
        due("27 none came", x.count(0), 3);
        due("27 another sort", x.forts(0, 0, 0, 1), -13);
        due("27 another sort", x.forts(0, 2, -1, 1), -13);
        due("27 sort 3", x.forts(0, 3, 0, 1), BAD);
        due("27 sort -1", x.forts(1, -1, 0, 1), BAD);
        due("27 n 9", x.forts(0, 1, 0, 9), BAD);
        due("27 n -1", x.forts(0, 1, 0, -1), BAD);
        due("27 sheet 4", x.forts(4, 0, 0, 0), BAD);
        due("27 sheet -1", x.forts(-1, 0, 0, 0), BAD);
        x.sheet(0, 2, 24);
        due("27 eight, three too many", x.forts(0, 2, 0, 8), 5);
        due("27 eight", x.count(0), 8);
        due("27 full, and behind the end", x.forts(0, 2, 3, 8), -12);
        row(x, 1, 0, -1, 0, 0);
        due("27 a byte below 0", x.forts(1, 0, 0, 1), 0);
    }

    private static void taken() {
        Sandcastles x = new Sandcastles();
        boolean[][] under = {
            {true, false, false, false, false, false},
            {true, true, false, false, false, false},
            {true, false, true, false, false, false},
            {true, true, false, true, false, false},
            {true, false, true, false, true, false},
            {true, false, false, false, false, true},
        };
        due("28 none", x.taken(0, 0), -11);
        for (int kind = 0; kind < 6; kind++) {
            x.fort(kind, kind + 3, 0);
            for (int k = 0; k < 6; k++) {
                due("28 kind " + kind + " for " + k, x.taken(kind, k), under[kind][k] ? kind + 3 : -13);
            }
        }
        due("28 fort 6", x.taken(6, 0), -11);
        due("28 fort -1", x.taken(-1, 0), -11);
        due("28 k 6", x.taken(0, 6), BAD);
        due("28 k -1", x.taken(0, -1), BAD);
        due("28 BAD ahead of -11", x.taken(9, 6), BAD);
    }

    /** No call throws and none of them changes what it refuses. */
    private static void strangeArguments() {
        int[] strange = {LEAST, LEAST + 1, -100, -2, -1, 0, 1, 7, 8, 9, 10, 17, 18, 40, 41, 160, MOST - 2, MOST};
        for (int a : strange) {
            for (int b : strange) {
                Sandcastles x = new Sandcastles();
                x.fort(4, 1, 3);
                x.sheet(0, 0, 40);
                for (int c : strange) {
                    x.set(a, b, c);
                    x.fort(a, b, c);
                    x.best(a, b, c);
                    x.matters(a, b, c);
                    x.wish(a, b, c);
                    x.tells(a, b, c);
                    x.film(a, b, c);
                    x.cell(a, b, c);
                    x.sheet(3, b, c);
                    x.copy(a, b, 0, c, a);
                    x.copy(0, b, a, c, b);
                    x.forts(a, b, c, 3);
                    x.forts(0, 0, c, b);
                    x.chance(a, b, c, 0);
                }
                x.told(a, b);
                x.feed(a);
                x.text();
                x.force(a);
                x.wave();
                x.spade(a);
                x.run(a, b);
                x.plan(a, b);
                x.keeps(a, b);
                x.game(a, b);
                x.drawn(a, b);
                x.image();
                x.back();
                x.count(a);
                x.taken(a, b);
                due("at least one fort", x.count(0) > 0 ? 1 : 0, 1);
            }
        }
    }
}
