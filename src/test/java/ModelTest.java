import java.util.ArrayList;
import java.util.List;
import java.util.Random;

/** Random runs of calls, each answered by the class and by a second, slow model written apart from it. */
public final class ModelTest {
    public static void main(String[] args) {
        int runs = 4000;
        for (int run = 0; run < runs; run++) {
            new Run(run).go();
        }
        System.out.println("ModelTest: " + runs + " runs agree");
    }

    /** One run of at most 512 calls on one object. */
    private static final class Run {
        private final int number;
        private final Random random;
        private final Sandcastles x = new Sandcastles();
        private final Model m = new Model();
        private final StringBuilder log = new StringBuilder();
        private int calls;
        private int games;

        Run(int number) {
            this.number = number;
            random = new Random(number);
        }

        void go() {
            int kind = number % 4;
            if (kind != 0) {
                for (int i = 0, n = 1 + random.nextInt(7); i < n; i++) {
                    int k = random.nextInt(6), no = random.nextInt(10), p = random.nextInt(16);
                    due("fort " + k + " " + no + " " + p, x.fort(k, no, p), m.fort(k, no, p));
                    int h = random.nextInt(100), r = random.nextInt(2);
                    due("set 5 " + i + " " + h, x.set(5, i, h), m.set(5, i, h));
                    due("set 4 " + i + " " + r, x.set(4, i, r), m.set(4, i, r));
                }
            }
            if (kind >= 2) {
                feed(Texts.random(random));
            }
            while (calls < 510) {
                any();
            }
        }

        private void due(String call, long got, long want) {
            calls++;
            log.append(call).append(" -> ").append(got).append('\n');
            if (got != want) {
                System.out.println(log);
                System.out.println("run " + number + ": " + call + " answered " + got + ", the model says " + want);
                System.exit(1);
            }
        }

        private void feed(String text) {
            for (int i = 0; i < text.length() && calls < 500; i++) {
                int b = text.charAt(i);
                due("feed " + b, x.feed(b), m.feed(b));
            }
            due("text [" + text + "]", x.text(), m.text());
            int t = m.texts.size() - 1;
            due("force " + t, x.force(t), m.force(t));
        }

        private int in(int low, int high) {
            int r = random.nextInt(40);
            if (r == 0) {
                return random.nextInt();
            }
            if (r == 1) {
                return low - 1;
            }
            if (r == 2) {
                return high + 1;
            }
            if (r == 3) {
                return random.nextBoolean() ? Integer.MIN_VALUE : Integer.MAX_VALUE;
            }
            return low + random.nextInt(high - low + 1);
        }

        private int aFort() {
            int most = Math.max(0, m.s.size() - 1);
            return in(0, most);
        }

        private int aView() {
            return random.nextBoolean() ? in(0, 2) : 10 + in(0, Math.max(0, m.s.size() - 1));
        }

        private int waves() {
            return random.nextInt(4) == 0 ? in(0, 40) : in(0, 6);
        }

        private void any() {
            switch (random.nextInt(34)) {
                case 0: { int a = in(0, 5), b = aFort(), v = in(0, 9); due("set " + a + " " + b + " " + v, x.set(a, b, v), m.set(a, b, v)); break; }
                case 1: { int b = aFort(), v = in(0, 99); due("set 5 " + b + " " + v, x.set(5, b, v), m.set(5, b, v)); break; }
                case 2: { int a = in(0, 5), b = in(0, 9), c = in(0, 15); if (random.nextInt(6) == 0) { due("fort " + a + " " + b + " " + c, x.fort(a, b, c), m.fort(a, b, c)); } break; }
                case 3: { int a = aFort(), b = in(0, 9); due("told " + a + " " + b, x.told(a, b), m.told(a, b)); break; }
                case 4: { int a = random.nextInt(8) == 0 ? in(0, 255) : ' '; due("feed " + a, x.feed(a), m.feed(a)); break; }
                case 5: { if (random.nextInt(12) == 0) { feed(Texts.random(random)); } break; }
                case 6: { int a = in(0, m.texts.size() - 1); due("force " + a, x.force(a), m.force(a)); break; }
                case 7: { if (random.nextInt(4) == 0) { due("wave", x.wave(), m.wave()); } break; }
                case 8: { int a = aFort(); due("spade " + a, x.spade(a), m.spade(a)); break; }
                case 9: case 10: { int a = waves(), b = aView(); due("run " + a + " " + b, x.run(a, b), m.run(a, b)); break; }
                case 11: { int a = in(0, 3), b = aView(); due("plan " + a + " " + b, x.plan(a, b), m.plan(a, b)); break; }
                case 12: { int a = aFort(), b = waves(); due("keeps " + a + " " + b, x.keeps(a, b), m.keeps(a, b)); break; }
                case 13: { int a = aFort(), b = waves(), c = in(0, 1); due("best " + a + " " + b + " " + c, x.best(a, b, c), m.best(a, b, c)); break; }
                case 14: { int a = aFort(), b = waves(), c = in(0, 1); due("matters " + a + " " + b + " " + c, x.matters(a, b, c), m.matters(a, b, c)); break; }
                case 15: { int a = in(0, 1), b = waves(), c = in(0, 1); due("wish " + a + " " + b + " " + c, x.wish(a, b, c), m.wish(a, b, c)); break; }
                case 16: {
                    int a = in(1, 3), b = in(0, 1);
                    if (a == 3 && ++games > 1) {
                        a = 2;
                    }
                    due("game " + a + " " + b, x.game(a, b), m.game(a, b));
                    break;
                }
                case 17: case 18: { int a = in(0, 3), b = aFort(), c = in(0, 5); due("tells " + a + " " + b + " " + c, x.tells(a, b, c), m.tells(a, b, c)); break; }
                case 19: { int a = in(0, 3), b = aFort(), c = waves(); due("film " + a + " " + b + " " + c, x.film(a, b, c), m.film(a, b, c)); break; }
                case 20: { int a = random.nextInt(), b = waves(); due("drawn " + a + " " + b, x.drawn(a, b), m.drawn(a, b)); break; }
                case 21: { int a = random.nextInt(4) == 0 ? Integer.MAX_VALUE : random.nextInt(), b = in(1, 20), c = waves(), d = in(0, 1); due("chance " + a + " " + b + " " + c + " " + d, x.chance(a, b, c, d), m.chance(a, b, c, d)); break; }
                case 22: { if (random.nextInt(4) == 0) { due("image", x.image(), m.image()); } break; }
                case 23: { if (random.nextInt(4) == 0) { due("back", x.back(), m.back()); } break; }
                case 24: { int a = in(0, 5); due("count " + a, x.count(a), m.count(a)); break; }
                case 25: { int a = in(0, 3), b = in(-1, 2), c = in(0, 40); due("sheet " + a + " " + b + " " + c, x.sheet(a, b, c), m.sheet(a, b, c)); break; }
                case 26: case 27: { int a = in(0, 3), b = in(0, 10), c = in(-1, 9); due("cell " + a + " " + b + " " + c, x.cell(a, b, c), m.cell(a, b, c)); break; }
                case 28: { int a = in(0, 3), b = in(0, 10), c = in(0, 3), d = in(0, 10), e = in(0, 10); due("copy " + a + " " + b + " " + c + " " + d + " " + e, x.copy(a, b, c, d, e), m.copy(a, b, c, d, e)); break; }
                case 29: { int a = in(0, 3), b = in(0, 2), c = in(0, 30), d = in(0, 8); if (random.nextInt(3) == 0) { due("forts " + a + " " + b + " " + c + " " + d, x.forts(a, b, c, d), m.forts(a, b, c, d)); } break; }
                case 30: { int a = aFort(), b = in(0, 5); due("taken " + a + " " + b, x.taken(a, b), m.taken(a, b)); break; }
                case 31: { int v = in(0, 999); due("set 1 0 " + v, x.set(1, 0, v), m.set(1, 0, v)); break; }
                case 32: { int b = aFort(), v = in(0, 15); due("set 3 " + b + " " + v, x.set(3, b, v), m.set(3, b, v)); break; }
                default: { int v = in(0, 9); due("set 0 0 " + v, x.set(0, 0, v), m.set(0, 0, v)); break; }
            }
        }
    }

    /** Texts by the grammar, now and then with a byte changed, left out or put in. */
    private static final class Texts {
        static String random(Random r) {
            String s;
            do {
                s = "strikes " + e(r, 3) + ";raises " + e(r, 2) + ";worth " + e(r, 2) + ";";
            } while (s.length() > 150);
            if (r.nextInt(3) == 0) {
                int at = r.nextInt(s.length());
                String put = " \n()-;+*<=not and or9az>A\t0".charAt(r.nextInt(26)) + "";
                switch (r.nextInt(4)) {
                    case 0: s = s.substring(0, at); break;
                    case 1: s = s.substring(0, at) + s.substring(at + 1); break;
                    case 2: s = s.substring(0, at) + put + s.substring(at); break;
                    default: s = s.substring(0, at) + put + s.substring(at + 1); break;
                }
            }
            return s;
        }

        private static String e(Random r, int deep) {
            int k = deep <= 0 ? r.nextInt(7) : r.nextInt(17);
            switch (k) {
                case 0: return "" + r.nextInt(30);
                case 1: return "wave";
                case 2: return "moon";
                case 3: return "place";
                case 4: return "number";
                case 5: return "height";
                case 6: return "shelter";
                case 7: return e(r, deep - 1) + "+" + e(r, deep - 1);
                case 8: return e(r, deep - 1) + " - " + e(r, deep - 1);
                case 9: return e(r, deep - 1) + "*" + e(r, deep - 1);
                case 10: return "-" + e(r, deep - 1);
                case 11: return "(" + e(r, deep - 1) + ")";
                case 12: return "(" + e(r, deep - 1) + "<" + e(r, deep - 1) + ")";
                case 13: return "(" + e(r, deep - 1) + "=" + e(r, deep - 1) + ")";
                case 14: return "(not " + e(r, deep - 1) + ")";
                case 15: return "(" + e(r, deep - 1) + " and " + e(r, deep - 1) + ")";
                default: return "(" + e(r, deep - 1) + " or " + e(r, deep - 1) + ")";
            }
        }
    }

    /** The fault of a text, thrown up to where the text is read. */
    private static final class Fault extends RuntimeException {
        private static final long serialVersionUID = 1;
        final int place;

        Fault(int place) {
            this.place = place;
        }
    }

    private interface E {
        int of(Map6 names);
    }

    private interface Map6 {
        int of(String name);
    }

    /** Reads a text byte by byte into a tree of functions. */
    private static final class TextReader {
        private final String t;
        private int at;
        private int open;

        TextReader(String t) {
            this.t = t;
        }

        List<E> text() {
            List<E> three = new ArrayList<>();
            for (String key : new String[] {"strikes", "raises", "worth"}) {
                take(key);
                three.add(or());
                take(";");
            }
            if (!peek().isEmpty()) {
                throw new Fault(start());
            }
            return three;
        }

        private int start() {
            int i = at;
            while (i < t.length() && (t.charAt(i) == 32 || t.charAt(i) == 10)) {
                i++;
            }
            return i;
        }

        private String peek() {
            int i = start();
            if (i == t.length()) {
                return "";
            }
            for (String run : new String[] {"abcdefghijklmnopqrstuvwxyz", "0123456789"}) {
                int j = i;
                while (j < t.length() && run.indexOf(t.charAt(j)) >= 0) {
                    j++;
                }
                if (j > i) {
                    return t.substring(i, j);
                }
            }
            return t.substring(i, i + 1);
        }

        private void take(String token) {
            if (!peek().equals(token)) {
                throw new Fault(start());
            }
            at = start() + token.length();
        }

        private boolean sees(String token) {
            return peek().equals(token);
        }

        private void enter() {
            if (open == 5) {
                throw new Fault(start());
            }
            open++;
        }

        private E or() {
            E left = and();
            while (sees("or")) {
                take("or");
                E l = left, r = and();
                left = n -> l.of(n) != 0 || r.of(n) != 0 ? 1 : 0;
            }
            return left;
        }

        private E and() {
            E left = not();
            while (sees("and")) {
                take("and");
                E l = left, r = not();
                left = n -> l.of(n) != 0 && r.of(n) != 0 ? 1 : 0;
            }
            return left;
        }

        private E not() {
            if (sees("not")) {
                enter();
                take("not");
                E e = not();
                open--;
                return n -> e.of(n) == 0 ? 1 : 0;
            }
            E l = sum();
            if (sees("<")) {
                take("<");
                E r = sum();
                return n -> l.of(n) < r.of(n) ? 1 : 0;
            }
            if (sees("=")) {
                take("=");
                E r = sum();
                return n -> l.of(n) == r.of(n) ? 1 : 0;
            }
            return l;
        }

        private E sum() {
            E left = term();
            while (sees("+") || sees("-")) {
                boolean plus = sees("+");
                take(plus ? "+" : "-");
                E l = left, r = term();
                left = n -> plus ? l.of(n) + r.of(n) : l.of(n) - r.of(n);
            }
            return left;
        }

        private E term() {
            E left = one();
            while (sees("*")) {
                take("*");
                E l = left, r = one();
                left = n -> l.of(n) * r.of(n);
            }
            return left;
        }

        private E one() {
            String p = peek();
            if (p.equals("-")) {
                enter();
                take("-");
                E e = one();
                open--;
                return n -> -e.of(n);
            }
            if (p.equals("(")) {
                enter();
                take("(");
                E e = or();
                take(")");
                open--;
                return e;
            }
            if (p.matches("[0-9]{1,4}")) {
                take(p);
                int v = Integer.parseInt(p);
                return n -> v;
            }
            if (p.matches("wave|moon|place|number|height|shelter")) {
                take(p);
                return n -> n.of(p);
            }
            throw new Fault(start());
        }
    }

    /** The strand as rows of numbers: kind, number, place, realm, height. */
    private static final class State {
        final List<int[]> forts = new ArrayList<>();
        int moon, wave, rule;

        State copy() {
            State c = new State();
            for (int[] f : forts) {
                c.forts.add(f.clone());
            }
            c.moon = moon;
            c.wave = wave;
            c.rule = rule;
            return c;
        }

        int size() {
            return forts.size();
        }
    }

    private static final class Model {
        State s = new State();
        State image;
        String tape = "";
        final List<List<E>> texts = new ArrayList<>();
        final int[][] rows = new int[4][];
        final int[] sorts = {-1, -1, -1, -1};

        Model() {
            texts.add(new TextReader("strikes 9 + moon - place - shelter ; raises 5 ; worth 10 ;").text());
        }

        private int shelter(State s, int f) {
            int n = 0;
            for (int[] g : s.forts) {
                if (g[4] > 0 && g[0] != 2 && g[2] < s.forts.get(f)[2]) {
                    n++;
                }
            }
            return n;
        }

        private int tell(State s, int f, int part) {
            int[] g = s.forts.get(f);
            int v = texts.get(s.rule).get(part).of(name -> {
                switch (name) {
                    case "wave": return s.wave;
                    case "moon": return s.moon;
                    case "place": return g[2];
                    case "number": return g[1];
                    case "height": return g[4];
                    default: return shelter(s, f);
                }
            });
            int top = part == 1 ? 20 : 99;
            return v < 0 ? 0 : v > top ? top : v;
        }

        private int loses(State s, int f, int kind) {
            int v = tell(s, f, 0), number = s.forts.get(f)[1];
            if (kind == 0) {
                return v;
            }
            if (kind == 1) {
                return loses(s, f, 0) / 2;
            }
            if (kind == 2) {
                return s.wave % (number + 2) == 0 ? 0 : loses(s, f, 0);
            }
            if (kind == 3) {
                return number + loses(s, f, 1);
            }
            if (kind == 4) {
                return 2 * loses(s, f, 2);
            }
            return v - number < 0 ? 0 : v - number;
        }

        private int rises(State s, int f, int kind) {
            if (kind == 1) {
                return 1 + rises(s, f, 0);
            }
            if (kind == 2) {
                return rises(s, f, 0) / 2;
            }
            if (kind == 3) {
                return rises(s, f, 1);
            }
            if (kind == 4) {
                return 1 + rises(s, f, 2);
            }
            return tell(s, f, 1);
        }

        private State beaten(State s) {
            State t = s.copy();
            for (int f = 0; f < s.size(); f++) {
                if (s.forts.get(f)[4] > 0) {
                    t.forts.get(f)[4] = Math.max(0, s.forts.get(f)[4] - loses(s, f, s.forts.get(f)[0]));
                }
            }
            t.wave++;
            return t;
        }

        private State raised(State s, int f) {
            State t = s.copy();
            if (f >= 0) {
                t.forts.get(f)[4] = Math.min(99, s.forts.get(f)[4] + rises(s, f, s.forts.get(f)[0]));
            }
            return t;
        }

        private State after(State s, int n) {
            State t = s;
            for (int i = 0; i < n; i++) {
                t = beaten(t);
            }
            return t;
        }

        private State with(int f, int what, int v) {
            State t = s.copy();
            t.forts.get(f)[what] = v;
            return t;
        }

        private int standing(State s) {
            int bits = 0;
            for (int f = 0; f < s.size(); f++) {
                bits += s.forts.get(f)[4] > 0 ? 1 << f : 0;
            }
            return bits;
        }

        private int bay(State s) {
            int[] many = new int[2], high = new int[2];
            for (int[] f : s.forts) {
                many[f[3]] += f[4] > 0 ? 1 : 0;
                high[f[3]] += f[4];
            }
            if (many[0] != many[1]) {
                return many[0] > many[1] ? 0 : 1;
            }
            return high[0] == high[1] ? -1 : high[0] > high[1] ? 0 : 1;
        }

        private int value(State s, int realm) {
            int sum = 0;
            for (int f = 0; f < s.size(); f++) {
                int[] g = s.forts.get(f);
                if (g[4] > 0) {
                    sum += (g[3] == realm ? 1 : -1) * tell(s, f, 2);
                }
            }
            return sum;
        }

        private boolean isFort(int f) {
            return f >= 0 && f < s.size();
        }

        private boolean in(int v, int low, int high) {
            return v >= low && v <= high;
        }

        int set(int what, int of, int v) {
            int[] highest = {9, 999, 9, 15, 1, 99};
            if (!in(what, 0, 5) || !in(v, 0, highest[what])) {
                return -2;
            }
            int was;
            if (what == 0) {
                was = s.moon;
                s.moon = v;
                return was;
            }
            if (what == 1) {
                was = s.wave;
                s.wave = v;
                return was;
            }
            if (!isFort(of)) {
                return -2;
            }
            was = s.forts.get(of)[what - 1];
            s.forts.get(of)[what - 1] = v;
            return was;
        }

        int fort(int kind, int number, int place) {
            if (!in(kind, 0, 5) || !in(number, 0, 9) || !in(place, 0, 15)) {
                return -2;
            }
            if (s.size() == 8) {
                return -4;
            }
            s.forts.add(new int[] {kind, number, place, 0, 20});
            return s.size() - 1;
        }

        int told(int of, int what) {
            if (what == 0) {
                return s.moon;
            }
            if (what == 1) {
                return s.wave;
            }
            if (!in(what, 0, 9) || !isFort(of)) {
                return -2;
            }
            int[] f = s.forts.get(of);
            switch (what) {
                case 6: return f[0];
                case 7: return loses(s, of, f[0]);
                case 8: return rises(s, of, f[0]);
                case 9: return shelter(s, of);
                default: return f[what - 1];
            }
        }

        int feed(int letter) {
            if (!in(letter, 0, 255)) {
                return -2;
            }
            if (tape.length() == 160) {
                return -4;
            }
            tape += (char) letter;
            return tape.length();
        }

        int text() {
            if (texts.size() == 6) {
                return -4;
            }
            try {
                texts.add(new TextReader(tape).text());
                return texts.size() - 1;
            } catch (Fault f) {
                return -100 - f.place;
            } finally {
                tape = "";
            }
        }

        int force(int text) {
            if (!in(text, 0, texts.size() - 1)) {
                return -2;
            }
            int was = s.rule;
            s.rule = text;
            return was;
        }

        int wave() {
            if (s.wave == 999) {
                return -3;
            }
            s = beaten(s);
            return standing(s);
        }

        int spade(int fort) {
            if (!isFort(fort)) {
                return -2;
            }
            s = raised(s, fort);
            return s.forts.get(fort)[4];
        }

        private int view(State s, int what) {
            return what == 0 ? standing(s) : what == 1 ? bay(s) : what == 2 ? value(s, 0) : s.forts.get(what - 10)[4];
        }

        private boolean isView(int what) {
            return in(what, 0, 2) || in(what, 10, 9 + s.size());
        }

        int run(int n, int what) {
            return in(n, 0, 40) && isView(what) ? view(after(s, n), what) : -100000;
        }

        int plan(int sheet, int what) {
            if (!in(sheet, 0, 3) || !isView(what) || sorts[sheet] < 0) {
                return -100000;
            }
            State t = s;
            for (int f : rows[sheet]) {
                if (f != -1 && !isFort(f)) {
                    return -100000;
                }
                t = beaten(raised(t, f));
            }
            return view(t, what);
        }

        int keeps(int fort, int n) {
            if (!isFort(fort) || !in(n, 0, 40)) {
                return -2;
            }
            int h = s.forts.get(fort)[4];
            for (int d = 0; d <= 99 - h; d++) {
                if (after(with(fort, 4, h + d), n).forts.get(fort)[4] > 0) {
                    return d;
                }
            }
            return -1;
        }

        int best(int fort, int n, int what) {
            if (!isFort(fort) || !in(n, 0, 40) || !in(what, 0, 1)) {
                return -2;
            }
            int place = -1, high = -1;
            for (int p = 15; p >= 0; p--) {
                int h = after(with(fort, 2, p), n).forts.get(fort)[4];
                if (h >= high) {
                    high = h;
                    place = p;
                }
            }
            return what == 0 ? place : high;
        }

        int matters(int fort, int n, int what) {
            if (!isFort(fort) || !in(n, 0, 40) || !in(what, 0, 1)) {
                return -2;
            }
            int so = after(s, n).forts.get(fort)[4], low = so, who = -1;
            for (int g = s.size() - 1; g >= 0; g--) {
                if (g != fort && s.forts.get(g)[3] == s.forts.get(fort)[3]) {
                    int h = after(with(g, 4, 0), n).forts.get(fort)[4];
                    if (h < so && h <= low) {
                        low = h;
                        who = g;
                    }
                }
            }
            return what == 0 ? who : low;
        }

        int wish(int realm, int n, int what) {
            if (!in(realm, 0, 1) || !in(n, 0, 40) || !in(what, 0, 1)) {
                return -100000;
            }
            int so = value(after(s, n), realm), high = so, who = -1;
            for (int g = s.size() - 1; g >= 0; g--) {
                if (s.forts.get(g)[3] != realm) {
                    int v = value(after(with(g, 4, 0), n), realm);
                    if (v > so && v >= high) {
                        high = v;
                        who = g;
                    }
                }
            }
            return what == 0 ? who : high;
        }

        int game(int n, int what) {
            if (!in(n, 1, 3) || !in(what, 0, 1)) {
                return -100000;
            }
            int[] all = turn(s, 2 * n);
            return all[what];
        }

        /** VALUE of REALM 0 at last and who is raised, when so many turns are to come; every line is played. */
        private int[] turn(State s, int turns) {
            if (turns == 0) {
                return new int[] {value(s, 0), -1};
            }
            int realm = turns % 2;
            int[] found = null;
            for (int f = -1; f < s.size(); f++) {
                if (f >= 0 && s.forts.get(f)[3] != realm) {
                    continue;
                }
                State t = raised(s, f);
                int v = turn(realm == 1 ? beaten(t) : t, turns - 1)[0];
                if (found == null || (realm == 0 ? v > found[0] : v < found[0])) {
                    found = new int[] {v, f};
                }
            }
            return found;
        }

        int tells(int sheet, int fort, int what) {
            if (!in(sheet, 0, 3) || !isFort(fort) || !in(what, 0, 5)) {
                return -2;
            }
            if (sorts[sheet] < 0) {
                return -11;
            }
            if (what == 0) {
                return other(s, rows[sheet], fort);
            }
            int[] choices = {0, 6, 10, 10, 16, texts.size()};
            int bits = 0;
            for (int c = 0; c < choices[what]; c++) {
                State t = s.copy();
                if (what == 1) {
                    t.forts.get(fort)[0] = c;
                } else if (what == 2) {
                    t.forts.get(fort)[1] = c;
                } else if (what == 3) {
                    t.moon = c;
                } else if (what == 4) {
                    t.forts.get(fort)[2] = c;
                } else {
                    t.rule = c;
                }
                bits += other(t, rows[sheet], fort) < 0 ? 1 << c : 0;
            }
            return bits;
        }

        private int other(State s, int[] row, int fort) {
            for (int i = 0; i < row.length; i++) {
                if (after(s, i + 1).forts.get(fort)[4] != row[i]) {
                    return i;
                }
            }
            return -1;
        }

        int film(int sheet, int fort, int n) {
            if (!in(sheet, 0, 3) || !isFort(fort) || !in(n, 0, 40)) {
                return -2;
            }
            sorts[sheet] = 0;
            rows[sheet] = new int[n];
            for (int i = 0; i < n; i++) {
                rows[sheet][i] = after(s, i + 1).forts.get(fort)[4];
            }
            return n;
        }

        private State drawnState(int seed, int n) {
            State t = s.copy();
            int z = seed;
            for (int i = 0; i < n; i++) {
                z = (int) (z * 1103515245L + 12345L);
                t.moon = (int) (((z & 0xffffffffL) >> 9) % 10);
                t = beaten(t);
            }
            return t;
        }

        int drawn(int seed, int n) {
            return in(n, 0, 40) ? standing(drawnState(seed, n)) : -2;
        }

        long chance(int seed, int n, int waves, int part) {
            if (!in(n, 1, 20) || !in(waves, 0, 40) || !in(part, 0, 1)) {
                return Sandcastles.NO;
            }
            int won = 0;
            for (int i = 0; i < n; i++) {
                won += bay(drawnState(seed + i, waves)) == 0 ? 1 : 0;
            }
            int a = won, b = n;
            while (b != 0) {
                int c = a % b;
                a = b;
                b = c;
            }
            return part == 0 ? won / a : n / a;
        }

        int image() {
            image = s.copy();
            return s.size();
        }

        int back() {
            if (image == null) {
                return -3;
            }
            s = image.copy();
            return s.size();
        }

        int count(int what) {
            switch (what) {
                case 0: return s.size();
                case 1: return Integer.bitCount(standing(s));
                case 2: return s.wave;
                case 3: return texts.size();
                case 4: return tape.length();
                case 5: return s.rule;
                default: return -2;
            }
        }

        int sheet(int sheet, int sort, int n) {
            if (!in(sheet, 0, 3) || !in(sort, -1, 2)) {
                return -2;
            }
            if (sort >= 0 && n > 40) {
                return -2;
            }
            if (sort >= 0 && n < 0) {
                return -14;
            }
            sorts[sheet] = sort;
            rows[sheet] = sort < 0 ? null : new int[n];
            return 1;
        }

        int cell(int sheet, int i, int v) {
            if (!in(sheet, 0, 3)) {
                return -2;
            }
            if (sorts[sheet] < 0) {
                return -11;
            }
            if (!in(i, 0, rows[sheet].length - 1)) {
                return -12;
            }
            rows[sheet][i] = sorts[sheet] == 0 ? v << 24 >> 24 : sorts[sheet] == 1 ? v << 16 >> 16 : v;
            return 1;
        }

        int copy(int sheet, int i, int other, int j, int n) {
            if (!in(sheet, 0, 3) || !in(other, 0, 3)) {
                return -2;
            }
            if (sorts[sheet] < 0 || sorts[other] < 0) {
                return -11;
            }
            if (sorts[sheet] != sorts[other]) {
                return -13;
            }
            if (i < 0 || j < 0 || n < 0 || (long) i + n > rows[sheet].length || (long) j + n > rows[other].length) {
                return -12;
            }
            int[] were = rows[sheet].clone();
            for (int k = 0; k < n; k++) {
                rows[other][j + k] = were[i + k];
            }
            return n;
        }

        int forts(int sheet, int sort, int from, int n) {
            if (!in(sheet, 0, 3) || !in(sort, 0, 2) || !in(n, 0, 8)) {
                return -2;
            }
            if (sorts[sheet] >= 0 && sorts[sheet] != sort) {
                return -13;
            }
            if (sorts[sheet] < 0) {
                return -11;
            }
            int came = 0;
            for (int k = 0; k < n; k++) {
                long at = from + 3L * k;
                if (at < 0 || at + 2 >= rows[sheet].length) {
                    return -12;
                }
                int a = (int) at;
                came += fort(rows[sheet][a], rows[sheet][a + 1], rows[sheet][a + 2]) >= 0 ? 1 : 0;
            }
            return came;
        }

        int taken(int fort, int k) {
            if (!in(k, 0, 5)) {
                return -2;
            }
            if (!isFort(fort)) {
                return -11;
            }
            int[] under = {-1, 0, 0, 1, 2, 0};
            for (int kind = s.forts.get(fort)[0]; kind >= 0; kind = under[kind]) {
                if (kind == k) {
                    return s.forts.get(fort)[1];
                }
            }
            return -13;
        }
    }
}
