/**
 * The boundaries of texts: how much THE TAPE and the TEXTS take, where a token begins and ends, where a
 * FAULT is, how many may be open, which bounds an E has. What the document says stands ahead of each test.
 */
public final class TextBoundariesTest extends Asking {
    private static final String HEAD = "strikes ", REST = ";raises 1;worth 1;";
    private static final String[] NAMES = {"wave", "moon", "place", "number", "height", "shelter"};
    private static final String[] KEYS = {"strikes", "raises", "worth", "or", "and", "not"};

    public static void main(String[] args) {
        bytesFed();
        tapeThatIsFull();
        textsOf160Bytes();
        tapeBehindAText();
        sixTexts();
        fullAheadOfAll();
        textsThatRule();
        names();
        keysInTheirPlaces();
        keysInPlaceOfAOne();
        wordsAsLongAsCanBe();
        numbers();
        signs();
        bytesThatBeginNone();
        everyByte();
        blanks();
        endsTooEarly();
        partsThatEndTooEarly();
        behindTheEnd();
        theFirstFault();
        comparesOnce();
        fiveOpen();
        sixOpen();
        closedOnes();
        notTillItsEnd();
        eachTextAnew();
        boundsOfStrikes();
        boundsOfRaises();
        boundsOfWorth();
        wraps();
        truths();
        sums();
        end("TextBoundariesTest");
    }

    /** An E that can stand. */
    private static void stands(String e) {
        due("strikes " + e, read(new Sandcastles(), HEAD + e + REST), 1);
    }

    /** An E with a FAULT so many bytes behind its first. */
    private static void fault(String e, int at) {
        due("strikes " + e, read(new Sandcastles(), HEAD + e + REST), -100 - HEAD.length() - at);
    }

    private static void faultOfText(String text, int place) {
        due("[" + text + "]", read(new Sandcastles(), text), -100 - place);
    }

    private static void means(String e, int v) {
        Sandcastles x = by(e, "0", "0");
        x.fort(0, 0, 0);
        due(e, x.told(0, 7), v);
    }

    /** "A byte (0 .. 255) comes behind THE TAPE: how many it has. BAD; FULL." */
    private static void bytesFed() {
        Sandcastles x = new Sandcastles();
        int[] none = {-1, -2, -128, -256, 256, 257, 511, 65536, LEAST, MOST};
        for (int b : none) {
            due("5 feed " + b, x.feed(b), BAD);
        }
        due("5 nothing came", x.count(4), 0);
        due("5 feed 0", x.feed(0), 1);
        due("5 feed 1", x.feed(1), 2);
        due("5 feed 127", x.feed(127), 3);
        due("5 feed 128", x.feed(128), 4);
        due("5 feed 254", x.feed(254), 5);
        due("5 feed 255", x.feed(255), 6);
        due("5 six came", x.count(4), 6);
        for (int b : none) {
            due("5 feed " + b, x.feed(b), BAD);
        }
        due("5 six came", x.count(4), 6);
        Sandcastles y = new Sandcastles();
        feed(y, HEAD + "1;raises 1;wor");
        y.feed(-1);
        y.feed(256);
        due("5 what was refused does not stand between", read(y, "th 1;"), 1);
    }

    /** "THE TAPE (160 bytes at most)" */
    private static void tapeThatIsFull() {
        Sandcastles x = new Sandcastles();
        for (int i = 1; i <= 160; i++) {
            due("5 byte " + i, x.feed(' '), i);
        }
        due("5 byte 161", x.feed(' '), FULL);
        due("5 byte 161", x.feed(0), FULL);
        due("5 byte 161", x.feed(255), FULL);
        due("5 BAD ahead of FULL", x.feed(-1), BAD);
        due("5 BAD ahead of FULL", x.feed(256), BAD);
        due("5 160", x.count(4), 160);
        due("6 160 blanks: it ends too early", x.text(), -260);
        due("6 empty then", x.count(4), 0);
        due("5 byte 1", x.feed(' '), 1);
    }

    private static void textsOf160Bytes() {
        String most = HEAD + "1+".repeat(66) + "1 " + REST;
        due("160 bytes", most.length(), 160);
        Sandcastles x = new Sandcastles();
        due("6 160 bytes", read(x, most), 1);
        x.force(1);
        x.fort(0, 0, 0);
        due("6 67 ones", x.told(0, 7), 67);
        String shorter = HEAD + "1+".repeat(66) + "1" + REST;
        due("6 159 bytes", read(new Sandcastles(), shorter), 1);
        faultOfText(shorter + ";", 159);
        due("6 the 161st byte can't come", read(new Sandcastles(), HEAD + "1+".repeat(66) + "1  " + REST), -260);
        due("6 blanks ahead", read(new Sandcastles(), " ".repeat(133) + HEAD + "1" + REST), 1);
        due("6 one blank too many", read(new Sandcastles(), " ".repeat(134) + HEAD + "1" + REST), -260);
        due("6 blanks behind", read(new Sandcastles(), HEAD + "1" + REST + "\n".repeat(133)), 1);
        faultOfText(HEAD + "1" + REST + " ".repeat(132) + "?", 159);
        faultOfText(HEAD + "1" + REST + " ".repeat(132) + ";", 159);
        faultOfText(HEAD + "1" + REST + " ".repeat(132) + "a", 159);
        faultOfText(HEAD + "1" + REST + " ".repeat(132) + "1", 159);
        faultOfText("a".repeat(160), 0);
        faultOfText("1".repeat(160), 0);
        faultOfText("(".repeat(160), 0);
        faultOfText(HEAD + "9".repeat(152), 8);
        faultOfText(HEAD + "1-".repeat(76), 160);
    }

    /** "THE TAPE, which is empty then (by a FAULT, too), is a TEXT" */
    private static void tapeBehindAText() {
        Sandcastles x = new Sandcastles();
        due("6 empty", x.text(), -100);
        due("6 still empty", x.text(), -100);
        due("6 a text", read(x, HEAD + "1" + REST), 1);
        due("6 empty then", x.count(4), 0);
        due("6 empty then", x.text(), -100);
        due("6 a fault", read(x, HEAD + "1 1" + REST), -110);
        due("6 empty then, too", x.count(4), 0);
        due("6 empty then, too", x.text(), -100);
        due("6 nothing of it is left", read(x, HEAD + "2" + REST), 2);
    }

    /** "There are 6 TEXTS at most, TEXT 0 with them." */
    private static void sixTexts() {
        Sandcastles x = new Sandcastles();
        due("23 TEXT 0 is there", x.count(3), 1);
        for (int t = 1; t <= 5; t++) {
            due("6 text " + t, read(x, HEAD + t + REST), t);
            due("23 texts", x.count(3), t + 1);
            due("7 none behind it", x.force(t + 1), BAD);
            due("7 it may rule", x.force(t), t - 1);
        }
        due("6 no seventh", read(x, HEAD + "6" + REST), FULL);
        due("23 six", x.count(3), 6);
        due("7 text 6", x.force(6), BAD);
        x.fort(0, 0, 0);
        for (int t = 5; t >= 1; t--) {
            x.force(t);
            due("7 by text " + t, x.told(0, 7), t);
        }
        x.force(0);
        due("7 by text 0", x.told(0, 7), 9);
    }

    /** "FULL (ahead of all): no TEXT more has room (THE TAPE stays)." */
    private static void fullAheadOfAll() {
        Sandcastles x = new Sandcastles();
        for (int t = 1; t <= 4; t++) {
            read(x, HEAD + t + REST);
        }
        due("6 a fault while one more has room", read(x, "?"), -100);
        due("6 the fifth", read(x, HEAD + "5" + REST), 5);
        due("6 of nothing", x.text(), FULL);
        feed(x, "?");
        due("6 of a fault", x.text(), FULL);
        due("6 the tape stays", x.count(4), 1);
        due("6 again", x.text(), FULL);
        due("5 a byte comes behind it", x.feed('?'), 2);
        while (x.count(4) < 160) {
            x.feed(' ');
        }
        due("6 of a tape that is full", x.text(), FULL);
        due("6 the tape stays", x.count(4), 160);
        due("6 it stays full", x.feed(' '), FULL);
    }

    /** "A TEXT is THE RULE: which was. BAD." */
    private static void textsThatRule() {
        Sandcastles x = new Sandcastles();
        int[] none = {-1, 1, 2, 5, 6, 256, LEAST, MOST};
        for (int t : none) {
            due("7 force " + t, x.force(t), BAD);
        }
        due("7 TEXT 0 at first", x.count(5), 0);
        due("7 TEXT 0 again", x.force(0), 0);
        read(x, HEAD + "1" + REST);
        due("7 it does not rule by itself", x.count(5), 0);
        due("7 text 1", x.force(1), 0);
        due("7 text 1 again", x.force(1), 1);
        for (int t : new int[] {-1, 2, 5, 6, LEAST, MOST}) {
            due("7 force " + t, x.force(t), BAD);
        }
        due("7 text 1 still", x.count(5), 1);
    }

    /** "a WORD that is neither KEY nor NAME" */
    private static void names() {
        for (String name : NAMES) {
            stands(name);
            stands("- " + name + " + " + name);
            fault(name + "a", 0);
            fault(name + "z", 0);
            fault(name.substring(0, name.length() - 1), 0);
            fault(name.substring(1), 0);
            fault("1 + q" + name.substring(1), 4);
            fault("1 + " + name.substring(0, name.length() - 1) + "q", 4);
            fault(name.substring(0, 1).toUpperCase() + name.substring(1), 0);
            fault(name.substring(0, 1) + name.substring(1).toUpperCase(), 0);
            fault(name + "A", name.length());
            fault(name + "1", name.length());
            fault(name + "_", name.length());
            fault(name + " " + name, name.length() + 1);
        }
        fault("a", 0);
        fault("z", 0);
        fault("waves", 0);
        fault("moons", 0);
        fault("realm", 0);
        fault("kind", 0);
        fault("xor", 0);
        fault("1 nor 1", 2);
    }

    private static void keysInTheirPlaces() {
        faultOfText("strike 1;raises 1;worth 1;", 0);
        faultOfText("strikess 1;raises 1;worth 1;", 0);
        faultOfText("Strikes 1;raises 1;worth 1;", 0);
        faultOfText("trikes 1;raises 1;worth 1;", 0);
        faultOfText("strikes 1;raise 1;worth 1;", 10);
        faultOfText("strikes 1;raisess 1;worth 1;", 10);
        faultOfText("strikes 1;worth 1;raises 1;", 10);
        faultOfText("strikes 1;strikes 1;worth 1;", 10);
        faultOfText("strikes 1;raises 1;wort 1;", 19);
        faultOfText("strikes 1;raises 1;worthy 1;", 19);
        faultOfText("strikes 1;raises 1;raises 1;", 19);
        faultOfText("strikes 1;raises 1;1;", 19);
        faultOfText("strikes 1 raises 1;worth 1;", 10);
        faultOfText("strikes 1;raises 1 worth 1;", 19);
        faultOfText("strikes;raises 1;worth 1;", 7);
        faultOfText("strikes 1;;raises 1;worth 1;", 10);
        faultOfText(";strikes 1;raises 1;worth 1;", 0);
        faultOfText("wave 1;", 0);
        faultOfText("1", 0);
    }

    private static void keysInPlaceOfAOne() {
        for (String key : KEYS) {
            if (!key.equals("not")) {
                fault(key, 0);
                fault("not " + key, 4);
            }
            fault("1 + " + key + " 1", 4);
            fault("1 * " + key + " 1", 4);
            fault("- " + key + " 1", 2);
            fault("1 < " + key + " 1", 4);
            fault("1 " + key, key.equals("or") || key.equals("and") ? 2 + key.length() : 2);
        }
        stands("not 1");
        stands("1 or not 1");
        stands("1 and not 1");
        stands("(not 1)");
    }

    /** "TOKENS, each as long as can be" */
    private static void wordsAsLongAsCanBe() {
        faultOfText("strikes1;raises1;worth1;strikes", 24);
        due("6 digits end a word", read(new Sandcastles(), "strikes1;raises1;worth1;"), 1);
        due("6 a ( ends a word", read(new Sandcastles(), "strikes(1);raises(1);worth(1);"), 1);
        due("6 a - ends a word", read(new Sandcastles(), "strikes-1;raises-1;worth-1;"), 1);
        faultOfText("strikesmoon;raises 1;worth 1;", 0);
        faultOfText("strikes moon;raisesmoon;worth 1;", 13);
        stands("1or 1");
        stands("1or1");
        stands("1and1");
        stands("not1");
        stands("moon or(moon)and(moon)");
        fault("moonor 1", 0);
        fault("1ormoon", 1);
        fault("notmoon", 0);
        fault("not not1 and notnot 1", 13);
        fault("moo n", 0);
        fault("mo\non", 0);
        fault("1moon", 1);
    }

    /** "NUMBERS (as many digits as stand there, 4 at most)", "a NUMBER that is too long" */
    private static void numbers() {
        for (int digits = 1; digits <= 4; digits++) {
            stands("0".repeat(digits));
            stands("9".repeat(digits));
            stands("1 + " + "1".repeat(digits) + " + 1");
        }
        for (int digits = 5; digits <= 12; digits++) {
            fault("0".repeat(digits), 0);
            fault("9".repeat(digits), 0);
            fault("1 + " + "1".repeat(digits) + " + 1", 4);
        }
        fault("00009", 0);
        fault("9999 9999", 5);
        fault("99 99", 3);
        fault("1 00001", 2);
        means("9999 = 9998 + 1", 1);
        means("0099", 99);
        means("0", 0);
        means("0000", 0);
        means("1000 - 999", 1);
        means("0123 - 0100", 23);
        means("1098 - 1009", 89);
        fault("-10000", 1);
        fault("1.5", 1);
    }

    /** "SIGNS ( ) ; + - * < =" */
    private static void signs() {
        stands("( 1 )");
        stands("1 + 1");
        stands("1 - 1");
        stands("1 * 1");
        stands("1 < 1");
        stands("1 = 1");
        for (String sign : new String[] {"+", "*", "<", "=", ")", ";"}) {
            fault(sign, 0);
            fault(sign + " 1", 0);
            fault("1 + " + sign + " 1", 4);
        }
        for (String sign : new String[] {"+", "-", "*", "<", "="}) {
            fault("1 " + sign, 3);
            fault("1 " + sign + " * 1", 4);
            fault("1 " + sign + " )", 4);
        }
        fault("1 <= 1", 3);
        fault("1 == 1", 3);
        fault("1 ( 1 )", 2);
        fault("1 )", 2);
        fault("( )", 2);
        fault("( 1", 3);
        fault("( 1 ) )", 6);
        stands("1 - - 1");
        stands("1 + - 1");
        stands("1 * - 1");
        stands("1 < - 1");
        stands("1 = - 1");
    }

    /** "also of a byte that begins none" */
    private static void bytesThatBeginNone() {
        for (int b = 0; b < 256; b++) {
            boolean begins = b >= '0' && b <= '9' || b >= 'a' && b <= 'z' || "();+-*<= \n".indexOf(b) >= 0;
            if (!begins) {
                faultOfText((char) b + "strikes", 0);
                faultOfText("strikes" + (char) b + "1" + REST, 7);
                fault("" + (char) b, 0);
                fault("1 " + (char) b + " 1", 2);
                faultOfText(HEAD + "1" + REST + (char) b, 27);
            }
        }
    }

    /** Every byte behind a NUMBER, with nothing between. */
    private static void everyByte() {
        for (int b = 0; b < 256; b++) {
            String e = "1" + (char) b;
            if (b >= '0' && b <= '9' || b == ' ' || b == '\n') {
                stands(e);
            } else if (";+-*<=".indexOf(b) >= 0) {
                fault(e, 2);
            } else {
                fault(e, 1);
            }
        }
    }

    /** "blanks (32, 10) may stand between" */
    private static void blanks() {
        due("6 a 32 and a 10 everywhere", read(new Sandcastles(),
            " \nstrikes \n- \n( \n1 \n+ \nmoon \n) \n; \nraises \n1 \n; \nworth \n1 \n; \n"), 1);
        due("6 none but where words would be one", read(new Sandcastles(),
            "strikes-(1+moon)*2<3or not moon=1;raises 1;worth 1;"), 1);
        int[] none = {0, 8, 9, 11, 12, 13, 31, 33, 160, 255};
        for (int b : none) {
            faultOfText("strikes" + (char) b + "1;raises 1;worth 1;", 7);
            faultOfText("strikes 1;" + (char) b + "raises 1;worth 1;", 10);
            faultOfText("strikes 1;raises 1;worth 1;" + (char) b, 27);
        }
        faultOfText("strikes 1 \r\n;raises 1;worth 1;", 10);
        faultOfText("str ikes 1;", 0);
    }

    /** "the text's size, if it ends too early": each beginning of a text. */
    private static void endsTooEarly() {
        String text = "strikes 1;raises 1;worth 1;";
        int[] due = {0, 0, 0, 0, 0, 0, 0, 7, 8, 9, 10, 10, 10, 10, 10, 10, 16, 17, 18, 19, 19, 19, 19, 19, 24, 25, 26};
        due("each beginning", due.length, text.length());
        for (int size = 0; size < due.length; size++) {
            faultOfText(text.substring(0, size), due[size]);
        }
        due("6 the whole", read(new Sandcastles(), text), 1);
    }

    private static void partsThatEndTooEarly() {
        String[] begun = {"", "1", "-", "(", "(1", "(1)", "not", "not 1", "1+", "1-", "1*", "1<", "1=", "1<1", "1or", "1or 1",
            "1and", "1and 1", "1and not", "(((((1))))", "moon", "1-(1", "9999"};
        for (String e : begun) {
            for (int blanks = 0; blanks < 3; blanks++) {
                String text = HEAD + e + " \n".substring(0, blanks);
                faultOfText(text, text.length());
                faultOfText("strikes 1; raises 1; worth " + text.substring(8), 19 + text.length());
            }
        }
        faultOfText(" ", 1);
        faultOfText("\n", 1);
        faultOfText("\n \n", 3);
        faultOfText("", 0);
    }

    private static void behindTheEnd() {
        String[] more = {";", "1", "moon", "strikes", "or", "(", "-", "?", "\t", "x", "12345", "strikes 1;raises 1;worth 1;"};
        for (String token : more) {
            faultOfText(HEAD + "1" + REST + token, 27);
            faultOfText(HEAD + "1" + REST + " \n" + token, 29);
        }
        due("6 only blanks", read(new Sandcastles(), HEAD + "1" + REST + " \n \n"), 1);
    }

    /** "the first byte of the first TOKEN that can't stand there" */
    private static void theFirstFault() {
        fault("1 2 12345", 2);
        fault("12345 2", 0);
        fault("1 ) ?", 2);
        fault("? )", 0);
        fault("1 worths ?", 2);
        fault("1 2 ((((((1", 2);
        fault("((((((1 2", 5);
        fault("moon 77777 x", 5);
        faultOfText("strikes 1 strikes ?", 10);
        faultOfText("raises ?", 0);
        faultOfText("   strikes   77777", 13);
        faultOfText("\n\nmoon", 2);
    }

    /** "perhaps < or = and a SUM" */
    private static void comparesOnce() {
        stands("1 < 2");
        stands("1 + 1 = 2 - 0");
        fault("1 < 2 < 3", 6);
        fault("1 < 2 = 3", 6);
        fault("1 = 2 < 3", 6);
        fault("1 = 2 = 3", 6);
        stands("(1 < 2) < 3");
        stands("1 < (2 < 3)");
        stands("1 < 2 or 2 < 3 and 3 = 3");
        fault("1 + not 1", 4);
        fault("1 < not 1", 4);
        fault("-not 1", 1);
        stands("not 1 < 2");
        stands("not not 1 = 2");
    }

    /** "while 5 of these are open": five may be open. */
    private static void fiveOpen() {
        stands("(((((1)))))");
        stands("-----1");
        stands("not not not not not 1");
        stands("-(-(-1))");
        stands("(-(-(1)))");
        stands("not(not(not 1))");
        stands("not not(-(1))");
        stands("not(-(-1))");
        stands("((not -(1)))");
        stands("(((((1-1)))))");
        stands("(((((1)-1)-1)-1)-1)");
        stands("(((((1+moon*2<3or 4and 5)))))");
        stands("not not not not not 1-1*1+1<1-1");
        stands("----(1)");
        stands("----(1-1-1)");
        stands("not not not not(1)");
    }

    private static void sixOpen() {
        fault("((((((1))))))", 5);
        fault("------1", 5);
        fault("not not not not not not 1", 20);
        fault("not not not not not -1", 20);
        fault("not not not not not (1)", 20);
        fault("not not not not not 1--1", 22);
        fault("-----(1)", 5);
        fault("(((((-1)))))", 5);
        fault("(((((not 1)))))", 5);
        fault("(((((1--1)))))", 7);
        fault("(((((1*-1)))))", 7);
        fault("(((((1<-1)))))", 7);
        fault("(((((1 or not 1)))))", 10);
        fault("-(-(-(1)))", 5);
        fault("(-(-(-1)))", 5);
        fault("not(not(not(1)))", 11);
        fault("not(not(not -1))", 12);
        fault("not(not not not(not 1))", 15);
        fault("(((((1+(1))))))", 7);
        fault("((((((((((1", 5);
        fault("----------1", 5);
    }

    /** "a ( till its ), not and - till what they belong to ends" */
    private static void closedOnes() {
        stands("(((((1)))))+(((((1)))))");
        stands("(((((1)))))*-----1");
        stands("-----1*-----1");
        stands("-----1+(((((1)))))");
        stands("-----1<-----1");
        stands("-----1-1");
        stands("-(1)*(((((1)))))");
        stands("(((1)))*((((1))))");
        stands("((((1)+(1)))+(1))");
        fault("((((1)+((1))))", 14);
        fault("(((((1)+((1)))))", 9);
        stands("((((1)*(1))))");
        stands("((((-1*-1))))");
        stands("(((-1)*-(1)))");
        stands("(((not 1 and not 1)))");
        stands("((((1)+(1)+(1)+(1)+(1)+(1)+(1))))");
        stands("1--1--1--1--1--1--1--1");
        stands("-1*-1*-1*-1*-1*-1*-1*-1");
        stands("(1)+(1)+(1)+(1)+(1)+(1)+(1)");
    }

    private static void notTillItsEnd() {
        stands("not not not not not 1 and not not not not not 1");
        stands("not not not not not 1 or not not not not not 1");
        stands("not not not not not 1 and -1");
        stands("not not not not not 1 or (1)");
        fault("not not not not not 1 < (1)", 24);
        fault("not not not not not 1 = -1", 24);
        fault("not not not not not 1 + (1)", 24);
        fault("not not not not not 1 * -1", 24);
        fault("not (1)*(((((1)))))", 12);
        fault("not 1<(((((1)))))", 10);
        stands("not 1 and (((((1)))))");
        stands("not (1)*((((1))))");
        stands("(not not not not 1) = (((((1)))))");
        stands("not not(not not 1)<-1");
        fault("not not(not not 1)<-(-(-1))", 22);
    }

    private static void eachTextAnew() {
        due("6 five open in each part", read(new Sandcastles(), "strikes (((((1)))));raises -----1;worth not not not not not 1;"), 1);
        Sandcastles x = new Sandcastles();
        String[] broken = {"strikes (((((", "strikes -----", "strikes not not not not not", "strikes ((((((", "strikes (((((1;"};
        for (String text : broken) {
            due("6 " + text, read(x, text) < -100 ? 1 : 0, 1);
            due("6 nothing stays open behind " + text, read(x, HEAD + "(((((1)))))" + REST) > 0 ? 1 : 0, 1);
        }
        Sandcastles y = new Sandcastles();
        for (int time = 0; time < 2; time++) {
            due("6 a fault at the end of what fills the tape", read(y, HEAD + "1+".repeat(75) + "1 "), -260);
        }
        due("6 a text behind them", read(y, HEAD + "1+".repeat(66) + "1" + REST), 1);
        y.force(1);
        y.fort(0, 0, 0);
        due("6 it means what it says", y.told(0, 7), 67);
    }

    private static Sandcastles byWaveLess500() {
        Sandcastles x = by("wave - 500", "wave - 500", "wave - 500");
        x.fort(0, 0, 0);
        return x;
    }

    /** "strikes (0 .. 99, else the bound)" */
    private static void boundsOfStrikes() {
        Sandcastles x = byWaveLess500();
        int[][] due = {{0, 0}, {499, 0}, {500, 0}, {501, 1}, {598, 98}, {599, 99}, {600, 99}, {601, 99}, {999, 99}};
        for (int[] d : due) {
            x.set(1, 0, d[0]);
            due("strikes at wave " + d[0], x.told(0, 7), d[1]);
        }
    }

    /** "raises (0 .. 20, else the bound)" */
    private static void boundsOfRaises() {
        Sandcastles x = byWaveLess500();
        int[][] due = {{0, 0}, {499, 0}, {500, 0}, {501, 1}, {519, 19}, {520, 20}, {521, 20}, {522, 20}, {999, 20}};
        for (int[] d : due) {
            x.set(1, 0, d[0]);
            due("raises at wave " + d[0], x.told(0, 8), d[1]);
        }
    }

    /** "worth (0 .. 99, else the bound)" */
    private static void boundsOfWorth() {
        Sandcastles x = byWaveLess500();
        int[][] due = {{0, 0}, {499, 0}, {500, 0}, {501, 1}, {598, 98}, {599, 99}, {600, 99}, {601, 99}, {999, 99}};
        for (int[] d : due) {
            x.set(1, 0, d[0]);
            due("worth at wave " + d[0], x.run(0, 2), d[1]);
        }
    }

    /** "An E is an int (32 bits, wrapping)" */
    private static void wraps() {
        String least = "4096 * 4096 * 128", most = "(4096 * 4096 * 128 - 1)";
        means(least + " < 0", 1);
        means(most + " < 0", 0);
        means(most + " + 1 < 0", 1);
        means(most + " + 1 = " + least, 1);
        means("0 - " + least + " = " + least, 1);
        means("-(" + least + ") = " + least, 1);
        means("-(" + least + ") < 0", 1);
        means(least + " - 1 = " + most, 1);
        means(most + " + " + most + " + 2", 0);
        means(most + " * " + most, 1);
        means(most + " * 2 + 2", 0);
        means(least + " * 2", 0);
        means(least, 0);
        means(most, 99);
        means(least + " - 1", 99);
        means(most + " + 1", 0);
        means(least + " < " + most, 1);
        means(most + " < " + least, 0);
        means("4096 * 4096 * 256 + 7", 7);
        means("-(4096 * 4096 * 256) - 7 + 9", 2);
    }

    /** "of or, and, not, <, = 1 or 0 (what is not 0 is true)" */
    private static void truths() {
        String least = "(4096 * 4096 * 128)";
        String[] so = {"1", "2", "-1", "9999", least};
        for (String e : so) {
            means(e + " or 0", 1);
            means("0 or " + e, 1);
            means(e + " and 1", 1);
            means("1 and " + e, 1);
            means("not " + e, 0);
            means("not not " + e, 1);
            means(e + " and 0", 0);
            means("0 and " + e, 0);
            means(e + " or " + e, 1);
            means(e + " and " + e, 1);
        }
        means("0 or 0", 0);
        means("0 and 0", 0);
        means("not 0", 1);
        means("1 - 1 or 2 * 0", 0);
        means("2 < 3", 1);
        means("3 < 3", 0);
        means("4 < 3", 0);
        means("-1 < 0", 1);
        means("0 < -1", 0);
        means("2 = 3", 0);
        means("3 = 3", 1);
        means("4 = 3", 0);
        means("-1 = 1", 0);
        means("(3 < 4) * 7 + (4 = 4) * 20", 27);
    }

    private static void sums() {
        means("30 - 1 - 2 - 3 - 4 - 5 - 6", 9);
        means("2 * 3 * 2 * 2 - 1", 23);
        means("2 + 3 * 4 - 5", 9);
        means("-2 + 10", 8);
        means("-2 * -3", 6);
        means("10 - -2", 12);
        means("- - - 5 + 10", 5);
        means("1 + 2 < 3 + 1", 1);
        means("not 1 + 1 = 3", 1);
        means("(not 1) + 1 = 3", 0);
        means("1 or 0 and 0", 1);
        means("0 and 0 or 1", 1);
        means("0 and (0 or 1)", 0);
    }
}
