/**
 * "Refusals .. they change nothing", and what is only thought or told changes nothing either: each call is
 * made on the same scene, of which all that can be seen is compared behind it.
 */
public final class RefusalsTest extends Asking {
    private static final int[] FAR = {LEAST, LEAST + 1, -65536, -1, 1000, 65536, MOST - 1, MOST};

    private interface Calls {
        void on(Sandcastles x);
    }

    public static void main(String[] args) {
        strandRefusals();
        textRefusals();
        waveRefusals();
        wishRefusals();
        toldRefusals();
        hostRefusals();
        thoughts();
        refusalsWhenFull();
        refusalsAt999();
        refusalsWithoutAnImage();
        end("RefusalsTest");
    }

    /** Three forts that an image keeps and then are changed; three sheets of three sorts; a text that is half fed. */
    private static Sandcastles scene() {
        Sandcastles x = by("3+moon-shelter", "4+number", "height");
        x.fort(4, 1, 2);
        x.fort(1, 2, 5);
        x.fort(5, 3, 9);
        x.set(0, 0, 3);
        x.set(1, 0, 7);
        x.set(4, 1, 1);
        x.set(5, 0, 60);
        x.image();
        x.set(5, 1, 77);
        x.set(1, 0, 500);
        x.film(0, 2, 6);
        x.sheet(1, 1, 2);
        x.cell(1, 0, 77 - 2);
        x.cell(1, 1, 77 - 4);
        row(x, 2, 2, 0, -1, 1, 2);
        feed(x, "strikes 1;raises 1;wor");
        return x;
    }

    /** All that the calls tell of a scene. */
    private static String seen(Sandcastles x) {
        StringBuilder s = new StringBuilder();
        for (int what = 0; what < 6; what++) {
            s.append(x.count(what)).append(' ');
        }
        for (int of = 0; of < x.count(0); of++) {
            for (int what = 0; what < 10; what++) {
                s.append(x.told(of, what)).append(' ');
            }
            s.append(x.plan(2, 10 + of)).append('\n');
        }
        for (int sheet = 0; sheet < 4; sheet++) {
            s.append(x.tells(sheet, 2 - sheet, 0)).append(" of ");
            int size = 0;
            while (x.copy(sheet, 0, sheet, 0, size) == size) {
                size++;
            }
            s.append(size).append(", sort ");
            for (int sort = 0; sort < 3; sort++) {
                s.append(x.forts(sheet, sort, 0, 0)).append(' ');
            }
        }
        return s.toString();
    }

    private static void leaves(String call, Calls calls) {
        Sandcastles x = scene();
        String before = seen(x);
        calls.on(x);
        same(call + " changed what is seen", seen(x), before);
        due(call + " changed THE TAPE", read(x, "th 1;"), 2);
        due(call + " changed the image", x.back(), 3);
        due(call + " changed the image", x.told(1, 5), 20);
        due(call + " changed the image", x.count(2), 7);
    }

    private static void strandRefusals() {
        leaves("set", x -> {
            for (int v : FAR) {
                for (int what = 0; what < 6; what++) {
                    x.set(what, 0, v);
                }
                x.set(v, 0, 1);
                x.set(2, v, 1);
                x.set(5, v, 1);
            }
            x.set(5, 3, 1);
            x.set(6, 0, 0);
        });
        leaves("fort", x -> {
            for (int v : FAR) {
                x.fort(v, 0, 0);
                x.fort(0, v, 0);
                x.fort(0, 0, v);
            }
            x.fort(6, 0, 0);
            x.fort(0, 10, 0);
            x.fort(0, 0, 16);
        });
        leaves("told", x -> {
            for (int v : FAR) {
                x.told(v, 5);
                x.told(0, v);
                x.told(v, v);
            }
        });
    }

    private static void textRefusals() {
        leaves("feed", x -> {
            for (int v : FAR) {
                x.feed(v);
            }
            x.feed(256);
        });
        leaves("force", x -> {
            for (int v : FAR) {
                x.force(v);
            }
            x.force(2);
            x.force(6);
        });
    }

    private static void waveRefusals() {
        leaves("spade", x -> {
            for (int v : FAR) {
                x.spade(v);
            }
            x.spade(3);
        });
        leaves("run", x -> {
            for (int v : FAR) {
                x.run(v, 0);
                x.run(3, v);
            }
            x.run(41, 0);
            x.run(40, 3);
            x.run(40, 13);
        });
        leaves("plan", x -> {
            for (int v : FAR) {
                x.plan(v, 0);
                x.plan(2, v);
            }
            x.plan(3, 0);
            x.plan(0, 0);
            x.plan(2, 13);
        });
    }

    private static void wishRefusals() {
        leaves("keeps, best, matters", x -> {
            for (int v : FAR) {
                x.keeps(v, 3);
                x.keeps(0, v);
                x.best(v, 3, 0);
                x.best(0, v, 0);
                x.best(0, 3, v);
                x.matters(v, 3, 0);
                x.matters(0, v, 0);
                x.matters(0, 3, v);
            }
            x.keeps(3, 41);
        });
        leaves("wish, game", x -> {
            for (int v : FAR) {
                x.wish(v, 3, 0);
                x.wish(0, v, 0);
                x.wish(0, 3, v);
                x.game(v, 0);
                x.game(2, v);
            }
            x.game(4, 0);
            x.game(0, 0);
        });
    }

    private static void toldRefusals() {
        leaves("tells, film", x -> {
            for (int v : FAR) {
                x.tells(v, 0, 0);
                x.tells(0, v, 0);
                x.tells(0, 0, v);
                x.film(v, 0, 3);
                x.film(0, v, 3);
                x.film(0, 0, v);
                x.film(3, 0, v);
            }
            x.tells(3, 0, 0);
            x.film(0, 3, 0);
            x.film(0, 0, 41);
            x.film(3, 3, 0);
        });
        leaves("drawn, chance, count", x -> {
            for (int v : FAR) {
                x.drawn(0, v);
                x.chance(0, v, 3, 0);
                x.chance(0, 3, v, 0);
                x.chance(0, 3, 3, v);
                x.count(v);
            }
            x.drawn(0, 41);
            x.chance(0, 21, 3, 0);
            x.chance(0, 0, 3, 0);
        });
    }

    private static void hostRefusals() {
        leaves("sheet", x -> {
            for (int v : FAR) {
                x.sheet(v, 0, 3);
                x.sheet(0, v == -1 ? -2 : v, 3);
                x.sheet(0, 0, v);
                x.sheet(3, 0, v);
                x.sheet(v, -1, 3);
            }
            x.sheet(1, 1, 41);
            x.sheet(2, 3, 4);
        });
        leaves("cell", x -> {
            for (int v : FAR) {
                x.cell(v, 0, 1);
                x.cell(0, v, 1);
                x.cell(3, v, 1);
            }
            x.cell(0, 6, 1);
            x.cell(1, 2, 1);
            x.cell(3, 0, 1);
        });
        leaves("copy", x -> {
            for (int v : FAR) {
                x.copy(v, 0, 0, 1, 1);
                x.copy(0, 0, v, 1, 1);
                x.copy(0, v, 0, 1, 1);
                x.copy(0, 0, 0, v, 1);
                x.copy(0, 0, 0, 1, v);
            }
            x.copy(0, 0, 1, 0, 1);
            x.copy(0, 0, 3, 0, 1);
            x.copy(3, 0, 0, 0, 1);
            x.copy(0, 0, 0, 1, 6);
            x.copy(0, 1, 0, 0, 6);
        });
        leaves("forts, taken", x -> {
            for (int v : FAR) {
                x.forts(v, 0, 0, 1);
                x.forts(2, v, 0, 1);
                x.forts(2, 2, v, 1);
                x.forts(2, 2, 0, v);
                x.taken(v, 0);
                x.taken(0, v);
            }
            x.forts(2, 1, 0, 1);
            x.forts(3, 0, 0, 1);
            x.forts(2, 2, 2, 1);
            x.taken(0, 1);
        });
    }

    /** "in thought" */
    private static void thoughts() {
        leaves("run in thought", x -> {
            x.run(40, 0);
            x.run(3, 1);
            x.run(3, 2);
            x.run(40, 11);
            x.plan(2, 0);
            x.plan(2, 12);
        });
        leaves("what would be best", x -> {
            for (int f = 0; f < 3; f++) {
                x.keeps(f, 40);
                x.best(f, 7, 0);
                x.best(f, 40, 1);
                x.matters(f, 7, 0);
                x.matters(f, 40, 1);
            }
            x.wish(0, 7, 0);
            x.wish(1, 40, 1);
        });
        leaves("a game", x -> {
            x.game(1, 0);
            x.game(2, 1);
            x.game(3, 0);
        });
        leaves("what was told", x -> {
            for (int what = 0; what < 6; what++) {
                x.tells(0, 2, what);
                x.tells(1, 1, what);
            }
            x.drawn(MOST, 40);
            x.chance(LEAST, 20, 40, 0);
            x.chance(MOST, 20, 3, 1);
            x.count(1);
            x.taken(0, 2);
        });
    }

    private static void refusalsWhenFull() {
        Sandcastles x = new Sandcastles();
        for (int i = 0; i < 8; i++) {
            x.fort(i % 6, i, i);
            x.set(5, i, 10 * i);
        }
        String before = seen(x);
        due("3 full", x.fort(5, 9, 15), FULL);
        same("3 full", seen(x), before);
        Sandcastles y = new Sandcastles();
        for (int t = 1; t < 6; t++) {
            read(y, "strikes " + t + ";raises " + t + ";worth " + t + ";");
        }
        y.fort(0, 0, 0);
        feed(y, "strikes 9;raises 9;worth 9;");
        due("6 full", y.text(), FULL);
        due("6 the tape stays", y.count(4), 27);
        due("6 THE RULE stays", y.count(5), 0);
        for (int t = 1; t < 6; t++) {
            y.force(t);
            due("6 text " + t + " stays", y.told(0, 7), t);
        }
    }

    private static void refusalsAt999() {
        leaves("wave", x -> {
            x.set(1, 0, 999);
            due("8 at 999", x.wave(), STATE);
            due("8 at 999, again", x.wave(), STATE);
            due("8 no height is lost", x.told(0, 5), 60);
            x.set(1, 0, 500);
        });
    }

    private static void refusalsWithoutAnImage() {
        Sandcastles x = new Sandcastles();
        x.fort(4, 1, 2);
        x.set(0, 0, 4);
        x.set(1, 0, 5);
        String before = seen(x);
        due("22 none", x.back(), STATE);
        same("22 none", seen(x), before);
    }
}
