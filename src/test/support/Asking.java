/** What the tests by hand ask with, and the strands, rules and sheets that they make. */
abstract class Asking {
    static final int LEAST = Integer.MIN_VALUE, MOST = Integer.MAX_VALUE;
    static final int NONE = -1, BAD = -2, STATE = -3, FULL = -4;
    static final int NOTHING = -11, OUTSIDE = -12, UNLIKE = -13, BELOW = -14;
    static final int REFUSED = -100000;

    private static int wrong;
    private static int asked;

    static void due(String call, long got, long want) {
        asked++;
        if (got != want) {
            wrong++;
            System.out.println(call + " answered " + got + ", due is " + want);
        }
    }

    static void same(String what, String got, String want) {
        asked++;
        if (!got.equals(want)) {
            wrong++;
            System.out.println(what + ": " + got + ", due is " + want);
        }
    }

    /** Tells how the test went; the exit code is 1 if an answer was wrong. */
    static void end(String test) {
        System.out.println(test + ": " + asked + " answers, " + wrong + " wrong");
        if (wrong != 0) {
            System.exit(1);
        }
    }

    static void feed(Sandcastles x, String bytes) {
        for (int i = 0; i < bytes.length(); i++) {
            x.feed(bytes.charAt(i));
        }
    }

    static int read(Sandcastles x, String text) {
        feed(x, text);
        return x.text();
    }

    static String whole(String strikes, String raises, String worth) {
        return "strikes " + strikes + " ; raises " + raises + " ; worth " + worth + " ;";
    }

    /** A new object whose RULE is of these three. */
    static Sandcastles by(String strikes, String raises, String worth) {
        Sandcastles x = new Sandcastles();
        due("text " + strikes, read(x, whole(strikes, raises, worth)), 1);
        x.force(1);
        return x;
    }

    static void row(Sandcastles x, int sheet, int sort, int... numbers) {
        x.sheet(sheet, sort, numbers.length);
        for (int i = 0; i < numbers.length; i++) {
            x.cell(sheet, i, numbers[i]);
        }
    }

    /** A fort of realm and height, of kind 0 and number 0. */
    static int put(Sandcastles x, int place, int realm, int height) {
        int f = x.fort(0, 0, place);
        x.set(4, f, realm);
        x.set(5, f, height);
        return f;
    }
}
