/**
 * Forts of sand on a strand, the waves that take from them and the spades that raise them, by a
 * rule that is read from a text. README.md says how to use it, ../shared/DOC.md what it promises.
 */
public final class Sandcastles {
    public static final int NONE = -1, BAD = -2, STATE = -3, FULL = -4;
    public static final long NO = -4611686018427387904L;

    private static final int NOTHING = -11, OUTSIDE = -12, UNLIKE = -13, BELOW = -14;
    // The refusal of calls whose answer may be a VALUE, which may well be BAD's number.
    private static final int REFUSED = -100000;
    private static final int FAULTY = -100;

    private static final int FORTS = 8, TEXTS = 6, SHEETS = 4, TAPE = 160, AHEAD = 40;
    private static final int KINDS = 6, NUMBERS = 10, PLACES = 16, MOONS = 10, WAVES = 1000;
    private static final int REALMS = 2, HEIGHTS = 100, NEW_HEIGHT = 20;
    private static final int GAME_WAVES = 3, SEEDS = 20;
    // Every VALUE lies between this and its negative: 8 forts are worth 99 each at most.
    private static final int BEYOND = 1000;
    private static final int WALL = 1, HOLE = 2, TOWER = 3, TRENCH = 4, PAIL = 5;
    private static final int BYTES = 0, SHORTS = 1, SORTS = 3;
    private static final int HEIGHT_VIEW = 10;
    private static final String TEXT_0 =
        "strikes 9 + moon - place - shelter ; raises 5 ; worth 10 ;";

    private final Tape tape = new Tape();
    private final Reader reader = new Reader(tape);
    private final Text[] texts = new Text[TEXTS];
    private int textCount;
    private final Strand strand;
    // What is only thought happens here, so that the strand stays as it is.
    private final Strand thought;
    private final Strand image;
    private boolean hasImage;
    private final Game match;
    private final Sheet[] sheets = new Sheet[SHEETS];

    public Sandcastles() {
        for (int i = 0; i < TEXTS; i++) {
            texts[i] = new Text(i);
        }
        for (int i = 0; i < SHEETS; i++) {
            sheets[i] = new Sheet();
        }
        for (int i = 0; i < TEXT_0.length(); i++) {
            tape.add(TEXT_0.charAt(i));
        }
        reader.readInto(texts[0]);
        tape.clear();
        textCount = 1;
        strand = new Strand(texts[0]);
        thought = new Strand(texts[0]);
        image = new Strand(texts[0]);
        match = new Game(thought);
    }

    // ---- the strand, forts

    public int set(int what, int of, int v) {
        if (v < 0 || v >= bound(what)) {
            return BAD;
        }
        int was = told(of, what);
        if (was == BAD) {
            return BAD;
        }
        if (what == 0) {
            strand.moon = v;
        } else if (what == 1) {
            strand.wave = v;
        } else {
            change(strand.at(of), what, v);
        }
        return was;
    }

    public int fort(int kind, int number, int place) {
        if (!Strand.isFort(kind, number, place)) {
            return BAD;
        }
        return strand.add(kind, number, place);
    }

    public int told(int of, int what) {
        if (what == 0) {
            return strand.moon;
        }
        if (what == 1) {
            return strand.wave;
        }
        Fort f = strand.at(of);
        if (f == null) {
            return BAD;
        }
        switch (what) {
            case 2: return f.number;
            case 3: return f.place;
            case 4: return f.realm;
            case 5: return f.height;
            case 6: return f.kind;
            case 7: return strand.losesOf(f);
            case 8: return strand.risesOf(f);
            case 9: return strand.shelterOf(f);
            default: return BAD;
        }
    }

    /** What a thing that set() changes stays below; 0 if there is no such thing. */
    private static int bound(int what) {
        switch (what) {
            case 0: return MOONS;
            case 1: return WAVES;
            case 2: return NUMBERS;
            case 3: return PLACES;
            case 4: return REALMS;
            case 5: return HEIGHTS;
            default: return 0;
        }
    }

    private static void change(Fort f, int what, int v) {
        if (f == null) {
            return;
        }
        switch (what) {
            case 2: f.number = v; break;
            case 3: f.place = v; break;
            case 4: f.realm = v; break;
            case 5: f.height = v; break;
            default: break;
        }
    }

    // ---- texts

    public int feed(int letter) {
        if (letter < 0 || letter > 255) {
            return BAD;
        }
        return tape.add(letter) ? tape.size : FULL;
    }

    public int text() {
        if (textCount < 0 || textCount >= TEXTS) {
            return FULL;
        }
        int fault = reader.readInto(texts[textCount]);
        tape.clear();
        if (fault != NONE) {
            return FAULTY - fault;
        }
        textCount++;
        return textCount - 1;
    }

    public int force(int text) {
        if (text < 0 || text >= textCount || text >= TEXTS) {
            return BAD;
        }
        int was = strand.rule.id;
        strand.rule = texts[text];
        return was;
    }

    // ---- waves

    public int wave() {
        if (strand.wave >= WAVES - 1) {
            return STATE;
        }
        strand.beat();
        return strand.standing();
    }

    public int spade(int fort) {
        Fort f = strand.at(fort);
        if (f == null) {
            return BAD;
        }
        strand.raise(f);
        return f.height;
    }

    public int run(int n, int what) {
        if (!isAhead(n) || !isView(what)) {
            return REFUSED;
        }
        think().pass(n);
        return view(what);
    }

    public int plan(int sheet, int what) {
        Sheet s = sheetAt(sheet);
        if (s == null || !isView(what) || s.isMissing() || !isPlan(s)) {
            return REFUSED;
        }
        think();
        for (int i = 0; i < s.size; i++) {
            Fort f = thought.at(s.item(i));
            if (f != null) {
                thought.raise(f);
            }
            thought.beat();
        }
        return view(what);
    }

    private boolean isPlan(Sheet s) {
        for (int i = 0; i < s.size; i++) {
            int fort = s.item(i);
            if (fort != NONE && strand.at(fort) == null) {
                return false;
            }
        }
        return true;
    }

    private static boolean isAhead(int n) {
        return n >= 0 && n <= AHEAD;
    }

    private boolean isView(int what) {
        return what >= 0 && what <= 2 || strand.at(what - HEIGHT_VIEW) != null;
    }

    private int view(int what) {
        switch (what) {
            case 0: return thought.standing();
            case 1: return thought.bay();
            case 2: return thought.valueOf(0);
            default: break;
        }
        Fort f = thought.at(what - HEIGHT_VIEW);
        return f == null ? REFUSED : f.height;
    }

    /** The thought begins anew; its forts stay the same objects, so a fort of it may be held. */
    private Strand think() {
        thought.take(strand);
        return thought;
    }

    // ---- what would be best

    public int keeps(int fort, int n) {
        Fort f = think().at(fort);
        if (f == null || !isAhead(n)) {
            return BAD;
        }
        int was = f.height;
        for (int more = 0; was + more < HEIGHTS; more++) {
            think();
            f.height = was + more;
            thought.pass(n);
            if (f.stands()) {
                return more;
            }
        }
        return NONE;
    }

    public int best(int fort, int n, int what) {
        Fort f = think().at(fort);
        if (f == null || !isAhead(n) || !isAnswer(what)) {
            return BAD;
        }
        int place = 0;
        int most = -1;
        for (int p = 0; p < PLACES; p++) {
            think();
            f.place = p;
            thought.pass(n);
            if (f.height > most) {
                most = f.height;
                place = p;
            }
        }
        return what == 0 ? place : most;
    }

    public int matters(int fort, int n, int what) {
        Fort f = think().at(fort);
        if (f == null || !isAhead(n) || !isAnswer(what)) {
            return BAD;
        }
        thought.pass(n);
        int least = f.height;
        int who = NONE;
        for (int i = 0; i < strand.size; i++) {
            Fort other = think().at(i);
            if (other == null || i == fort || other.realm != f.realm) {
                continue;
            }
            other.height = 0;
            thought.pass(n);
            if (f.height < least) {
                least = f.height;
                who = i;
            }
        }
        return what == 0 ? who : least;
    }

    public int wish(int realm, int n, int what) {
        if (realm < 0 || realm >= REALMS || !isAhead(n) || !isAnswer(what)) {
            return REFUSED;
        }
        think().pass(n);
        int most = thought.valueOf(realm);
        int who = NONE;
        for (int i = 0; i < strand.size; i++) {
            Fort other = think().at(i);
            if (other == null || other.realm == realm) {
                continue;
            }
            other.height = 0;
            thought.pass(n);
            int value = thought.valueOf(realm);
            if (value > most) {
                most = value;
                who = i;
            }
        }
        return what == 0 ? who : most;
    }

    public int game(int n, int what) {
        if (n < 1 || n > GAME_WAVES || !isAnswer(what)) {
            return REFUSED;
        }
        think();
        int value = match.most(n, -BEYOND, BEYOND);
        return what == 0 ? value : match.first;
    }

    private static boolean isAnswer(int what) {
        return what == 0 || what == 1;
    }

    // ---- waves that were told

    public int tells(int sheet, int fort, int what) {
        Sheet s = sheetAt(sheet);
        Fort f = think().at(fort);
        if (s == null || f == null || what < 0 || what > 5) {
            return BAD;
        }
        if (s.isMissing()) {
            return NOTHING;
        }
        if (what == 0) {
            return firstOther(s, f);
        }
        int bits = 0;
        int choices = choicesOf(what);
        for (int choice = 0; choice < choices; choice++) {
            think();
            suppose(f, what, choice);
            if (firstOther(s, f) == NONE) {
                bits |= 1 << choice;
            }
        }
        return bits;
    }

    private int choicesOf(int what) {
        switch (what) {
            case 1: return KINDS;
            case 2: return NUMBERS;
            case 3: return MOONS;
            case 4: return PLACES;
            default: return textCount;
        }
    }

    private void suppose(Fort f, int what, int choice) {
        switch (what) {
            case 1: f.kind = choice; break;
            case 2: f.number = choice; break;
            case 3: thought.moon = choice; break;
            case 4: f.place = choice; break;
            default:
                if (choice >= 0 && choice < TEXTS) {
                    thought.rule = texts[choice];
                }
                break;
        }
    }

    private int firstOther(Sheet s, Fort f) {
        for (int i = 0; i < s.size; i++) {
            thought.beat();
            if (f.height != s.item(i)) {
                return i;
            }
        }
        return NONE;
    }

    public int film(int sheet, int fort, int n) {
        Sheet s = sheetAt(sheet);
        Fort f = think().at(fort);
        if (s == null || f == null || !isAhead(n)) {
            return BAD;
        }
        s.become(BYTES, n);
        for (int i = 0; i < n; i++) {
            thought.beat();
            s.put(i, f.height);
        }
        return n;
    }

    public int drawn(int seed, int n) {
        if (!isAhead(n)) {
            return BAD;
        }
        passDrawn(seed, n);
        return thought.standing();
    }

    public long chance(int seed, int n, int waves, int part) {
        if (n < 1 || n > SEEDS || !isAhead(waves) || !isAnswer(part)) {
            return NO;
        }
        int won = 0;
        for (int i = 0; i < n; i++) {
            passDrawn(seed + i, waves);
            if (thought.bay() == 0) {
                won++;
            }
        }
        int shared = commonDivisor(won, n);
        if (shared < 1) {
            return NO;
        }
        return part == 0 ? won / shared : n / shared;
    }

    private void passDrawn(int seed, int n) {
        think();
        int z = seed;
        for (int i = 0; i < n; i++) {
            z = z * 1103515245 + 12345;
            thought.moon = (z >>> 9) % MOONS;
            thought.beat();
        }
    }

    /** The greatest number, n at most, that divides both. */
    private static int commonDivisor(int part, int n) {
        for (int d = n; d > 1; d--) {
            if (part % d == 0 && n % d == 0) {
                return d;
            }
        }
        return 1;
    }

    public int image() {
        image.take(strand);
        hasImage = true;
        return strand.size;
    }

    public int back() {
        if (!hasImage) {
            return STATE;
        }
        strand.take(image);
        return strand.size;
    }

    public int count(int what) {
        switch (what) {
            case 0: return strand.size;
            case 1: return Integer.bitCount(strand.standing());
            case 2: return strand.wave;
            case 3: return textCount;
            case 4: return tape.size;
            case 5: return strand.rule.id;
            default: return BAD;
        }
    }

    // ---- the host

    public int sheet(int sheet, int sort, int n) {
        Sheet s = sheetAt(sheet);
        if (s == null || sort < NONE || sort >= SORTS) {
            return BAD;
        }
        if (sort == NONE) {
            s.become(NONE, 0);
            return 1;
        }
        if (n > AHEAD) {
            return BAD;
        }
        if (n < 0) {
            return BELOW;
        }
        s.become(sort, n);
        return 1;
    }

    public int cell(int sheet, int i, int v) {
        Sheet s = sheetAt(sheet);
        if (s == null) {
            return BAD;
        }
        if (s.isMissing()) {
            return NOTHING;
        }
        return s.put(i, v) ? 1 : OUTSIDE;
    }

    public int copy(int sheet, int i, int other, int j, int n) {
        Sheet from = sheetAt(sheet);
        Sheet to = sheetAt(other);
        if (from == null || to == null) {
            return BAD;
        }
        if (from.isMissing() || to.isMissing()) {
            return NOTHING;
        }
        if (from.sort != to.sort) {
            return UNLIKE;
        }
        if (!from.spans(i, n) || !to.spans(j, n)) {
            return OUTSIDE;
        }
        System.arraycopy(from.row, i, to.row, j, n);
        return n;
    }

    public int forts(int sheet, int sort, int from, int n) {
        Sheet s = sheetAt(sheet);
        if (s == null || sort < BYTES || sort >= SORTS || n < 0 || n > FORTS) {
            return BAD;
        }
        if (!s.isMissing() && s.sort != sort) {
            return UNLIKE;
        }
        if (s.isMissing()) {
            return NOTHING;
        }
        int came = 0;
        int at = from;
        for (int k = 0; k < n; k++) {
            if (!s.spans(at, 3)) {
                return OUTSIDE;
            }
            if (fort(s.item(at), s.item(at + 1), s.item(at + 2)) >= 0) {
                came++;
            }
            at += 3;
        }
        return came;
    }

    public int taken(int fort, int k) {
        if (k < 0 || k >= KINDS) {
            return BAD;
        }
        Fort f = strand.at(fort);
        if (f == null) {
            return NOTHING;
        }
        return f.isUnder(k) ? f.number : UNLIKE;
    }

    private Sheet sheetAt(int i) {
        return i >= 0 && i < SHEETS ? sheets[i] : null;
    }

    /** One fort; what it loses and how it rises by its kind. */
    private static final class Fort {
        private int kind, number, place, realm, height;
        // What the wave that comes takes: all is counted before any fort loses.
        private int loss;

        void begin(int kind, int number, int place) {
            this.kind = kind;
            this.number = number;
            this.place = place;
            realm = 0;
            height = NEW_HEIGHT;
        }

        void take(Fort other) {
            kind = other.kind;
            number = other.number;
            place = other.place;
            realm = other.realm;
            height = other.height;
        }

        boolean stands() {
            return height > 0;
        }

        boolean isUnder(int k) {
            return k == 0 || k == kind || k == WALL && kind == TOWER || k == HOLE && kind == TRENCH;
        }

        int lossBy(int strike, int wave) {
            switch (kind) {
                case WALL: return strike / 2;
                case HOLE: return isDry(wave) ? 0 : strike;
                case TOWER: return strike / 2 + number;
                case TRENCH: return isDry(wave) ? 0 : 2 * strike;
                case PAIL: return Math.max(0, strike - number);
                default: return strike;
            }
        }

        private boolean isDry(int wave) {
            int every = number + 2;
            return every > 0 && wave % every == 0;
        }

        int riseBy(int raise) {
            switch (kind) {
                case WALL:
                case TOWER: return raise + 1;
                case HOLE: return raise / 2;
                case TRENCH: return raise / 2 + 1;
                default: return raise;
            }
        }
    }

    /** All that a wave or a spade depends on and changes. */
    private static final class Strand {
        private final Fort[] forts = new Fort[FORTS];
        private int size;
        private int moon;
        private int wave;
        private Text rule;

        Strand(Text rule) {
            this.rule = rule;
            for (int i = 0; i < FORTS; i++) {
                forts[i] = new Fort();
            }
        }

        static boolean isFort(int kind, int number, int place) {
            return kind >= 0 && kind < KINDS && number >= 0 && number < NUMBERS
                && place >= 0 && place < PLACES;
        }

        int add(int kind, int number, int place) {
            if (size < 0 || size >= FORTS) {
                return FULL;
            }
            forts[size].begin(kind, number, place);
            size++;
            return size - 1;
        }

        Fort at(int i) {
            return i >= 0 && i < size && i < FORTS ? forts[i] : null;
        }

        void take(Strand other) {
            for (int i = 0; i < FORTS; i++) {
                forts[i].take(other.forts[i]);
            }
            size = other.size;
            moon = other.moon;
            wave = other.wave;
            rule = other.rule;
        }

        int losesOf(Fort f) {
            return f.lossBy(rule.strikeOn(this, f), wave);
        }

        int risesOf(Fort f) {
            return f.riseBy(rule.raiseOf(this, f));
        }

        int shelterOf(Fort f) {
            int many = 0;
            for (int i = 0; i < size && i < FORTS; i++) {
                Fort other = forts[i];
                if (other.place < f.place && other.height > 0 && other.kind != HOLE) {
                    many++;
                }
            }
            return many;
        }

        void beat() {
            for (int i = 0; i < size && i < FORTS; i++) {
                Fort f = forts[i];
                f.loss = f.stands() ? f.lossBy(rule.strikeOn(this, f), wave) : 0;
            }
            for (int i = 0; i < size && i < FORTS; i++) {
                Fort f = forts[i];
                f.height = Math.max(0, f.height - f.loss);
            }
            wave++;
        }

        void pass(int n) {
            for (int i = 0; i < n; i++) {
                beat();
            }
        }

        void raise(Fort f) {
            f.height = Math.min(HEIGHTS - 1, f.height + risesOf(f));
        }

        int standing() {
            int bits = 0;
            for (int i = 0; i < size && i < FORTS; i++) {
                if (forts[i].stands()) {
                    bits |= 1 << i;
                }
            }
            return bits;
        }

        int bay() {
            int moreStand = 0;
            int moreHeight = 0;
            for (int i = 0; i < size && i < FORTS; i++) {
                Fort f = forts[i];
                int side = f.realm == 0 ? 1 : -1;
                moreStand += f.stands() ? side : 0;
                moreHeight += side * f.height;
            }
            int more = moreStand != 0 ? moreStand : moreHeight;
            if (more == 0) {
                return NONE;
            }
            return more > 0 ? 0 : 1;
        }

        int valueOf(int realm) {
            int sum = 0;
            for (int i = 0; i < size && i < FORTS; i++) {
                Fort f = forts[i];
                if (f.stands()) {
                    int worth = rule.worthOf(this, f);
                    sum += f.realm == realm ? worth : -worth;
                }
            }
            return sum;
        }
    }

    /** The game of the two realms, played on a strand that is as it was when it has ended. */
    private static final class Game {
        private final Strand strand;
        private final int[][] heights = new int[GAME_WAVES][FORTS];
        // The fort that REALM 0 took in the call of most() that ended last.
        private int first;

        Game(Strand strand) {
            this.strand = strand;
        }

        /**
         * VALUE of REALM 0 when it is its turn and so many waves are to come. Lines that can't lead
         * between low and high are left, for then a choice found earlier is taken anyway.
         */
        private int most(int waves, int low, int high) {
            if (waves < 1 || waves > GAME_WAVES) {
                return strand.valueOf(0);
            }
            int fort = NONE;
            int value = least(waves, low, high);
            for (int i = 0; i < strand.size && value < high; i++) {
                Fort f = strand.at(i);
                if (f == null || f.realm != 0) {
                    continue;
                }
                int was = f.height;
                strand.raise(f);
                int other = least(waves, Math.max(low, value), high);
                f.height = was;
                if (other > value) {
                    value = other;
                    fort = i;
                }
            }
            first = fort;
            return value;
        }

        private int least(int waves, int low, int high) {
            int value = behindWave(waves, low, high);
            for (int i = 0; i < strand.size && value > low; i++) {
                Fort f = strand.at(i);
                if (f == null || f.realm != 1) {
                    continue;
                }
                int was = f.height;
                strand.raise(f);
                int other = behindWave(waves, low, Math.min(high, value));
                f.height = was;
                value = Math.min(value, other);
            }
            return value;
        }

        private int behindWave(int waves, int low, int high) {
            if (waves < 1 || waves > GAME_WAVES) {
                return strand.valueOf(0);
            }
            int[] kept = heights[waves - 1];
            for (int i = 0; i < FORTS; i++) {
                kept[i] = strand.forts[i].height;
            }
            strand.beat();
            int value = most(waves - 1, low, high);
            strand.wave--;
            for (int i = 0; i < FORTS; i++) {
                strand.forts[i].height = kept[i];
            }
            return value;
        }
    }

    /** A text that was read: its three E, operands ahead of their sign, so that no tree is walked. */
    private static final class Text {
        private static final int WAVE = -1, MOON = -2, PLACE = -3, NUMBER = -4, HEIGHT = -5;
        private static final int SHELTER = -6, NOT = -7, MINUS = -8, OR = -9, AND = -10;
        private static final int LESS = -11, LIKE = -12, PLUS = -13, FEWER = -14, TIMES = -15;
        // Five operands may wait ahead of each of the five ( that may be open, and five behind them.
        private static final int WAITING = 40;

        private final int id;
        // A number from 0 on stands for itself, one below 0 is a name or a sign.
        private final int[] codes = new int[TAPE];
        private int size;
        private int raisesFrom;
        private int worthFrom;
        private final int[] stack = new int[WAITING];
        private int depth;

        Text(int id) {
            this.id = id;
        }

        void clear() {
            size = 0;
        }

        void add(int code) {
            if (size >= 0 && size < TAPE) {
                codes[size] = code;
                size++;
            }
        }

        void startRaises() {
            raisesFrom = size;
        }

        void startWorth() {
            worthFrom = size;
        }

        int strikeOn(Strand s, Fort f) {
            return Math.min(99, tell(0, raisesFrom, s, f));
        }

        int raiseOf(Strand s, Fort f) {
            return Math.min(20, tell(raisesFrom, worthFrom, s, f));
        }

        int worthOf(Strand s, Fort f) {
            return Math.min(99, tell(worthFrom, size, s, f));
        }

        /** What an E tells, 0 at least. */
        private int tell(int from, int to, Strand s, Fort f) {
            depth = 0;
            for (int i = from; i >= 0 && i < to && i < TAPE; i++) {
                int code = codes[i];
                if (code >= 0) {
                    push(code);
                } else if (code >= SHELTER) {
                    push(named(code, s, f));
                } else if (code >= MINUS) {
                    int v = pop();
                    push(code == MINUS ? -v : truth(v == 0));
                } else {
                    int right = pop();
                    push(joined(code, pop(), right));
                }
            }
            return Math.max(0, pop());
        }

        private void push(int v) {
            if (depth >= 0 && depth < WAITING) {
                stack[depth] = v;
                depth++;
            }
        }

        private int pop() {
            if (depth < 1 || depth > WAITING) {
                return 0;
            }
            depth--;
            return stack[depth];
        }

        private static int named(int name, Strand s, Fort f) {
            switch (name) {
                case WAVE: return s.wave;
                case MOON: return s.moon;
                case PLACE: return f.place;
                case NUMBER: return f.number;
                case HEIGHT: return f.height;
                default: return s.shelterOf(f);
            }
        }

        private static int joined(int sign, int left, int right) {
            switch (sign) {
                case OR: return truth(left != 0 || right != 0);
                case AND: return truth(left != 0 && right != 0);
                case LESS: return truth(left < right);
                case LIKE: return truth(left == right);
                case PLUS: return left + right;
                case FEWER: return left - right;
                default: return left * right;
            }
        }

        private static int truth(boolean so) {
            return so ? 1 : 0;
        }
    }

    /** THE TAPE, and the tokens that it is cut into. */
    private static final class Tape {
        private static final int END = 1, WRONG = 2, STRIKES = 3, RAISES = 4, WORTH = 5;
        // A number's token is so much more; a sign's is its byte; a name's, as that of or, and,
        // not, is its code in a Text.
        private static final int NUMBERS_FROM = 1000;
        private static final int MOST_DIGITS = 4;
        private static final int BLANK = 0, DIGIT = 1, LETTER = 2, SIGN = 3, OTHER = 4;

        private final int[] bytes = new int[TAPE];
        private int size;
        private final int[] tokens = new int[TAPE + 1];
        private final int[] starts = new int[TAPE + 1];

        boolean add(int letter) {
            if (size < 0 || size >= TAPE) {
                return false;
            }
            bytes[size] = letter;
            size++;
            return true;
        }

        void clear() {
            size = 0;
        }

        /** The last token is END, or else the first WRONG one: nothing behind that can matter. */
        void cut() {
            int token = 0;
            int at = 0;
            for (int k = 0; k <= TAPE && token != END && token != WRONG; k++) {
                int from = behind(at, BLANK);
                switch (sortAt(from)) {
                    case DIGIT:
                        at = behind(from, DIGIT);
                        token = numberToken(from, at);
                        break;
                    case LETTER:
                        at = behind(from, LETTER);
                        token = wordToken(from, at);
                        break;
                    case SIGN:
                        at = from + 1;
                        token = byteAt(from);
                        break;
                    default:
                        token = from < size ? WRONG : END;
                        break;
                }
                tokens[k] = token;
                starts[k] = from;
            }
        }

        /** The first place, from one on, where no byte of a sort is. */
        private int behind(int from, int sort) {
            int i = from;
            while (i < size && sortAt(i) == sort) {
                i++;
            }
            return i;
        }

        private int numberToken(int from, int to) {
            if (to - from > MOST_DIGITS) {
                return WRONG;
            }
            int number = 0;
            for (int i = from; i < to; i++) {
                number = number * 10 + byteAt(i) - '0';
            }
            return NUMBERS_FROM + number;
        }

        private int wordToken(int from, int to) {
            if (isWord("strikes", from, to)) return STRIKES;
            if (isWord("raises", from, to)) return RAISES;
            if (isWord("worth", from, to)) return WORTH;
            if (isWord("or", from, to)) return Text.OR;
            if (isWord("and", from, to)) return Text.AND;
            if (isWord("not", from, to)) return Text.NOT;
            if (isWord("wave", from, to)) return Text.WAVE;
            if (isWord("moon", from, to)) return Text.MOON;
            if (isWord("place", from, to)) return Text.PLACE;
            if (isWord("number", from, to)) return Text.NUMBER;
            if (isWord("height", from, to)) return Text.HEIGHT;
            if (isWord("shelter", from, to)) return Text.SHELTER;
            return WRONG;
        }

        private boolean isWord(String word, int from, int to) {
            if (to - from != word.length()) {
                return false;
            }
            for (int i = 0; i < word.length(); i++) {
                if (byteAt(from + i) != word.charAt(i)) {
                    return false;
                }
            }
            return true;
        }

        private int byteAt(int i) {
            return i >= 0 && i < size && i < TAPE ? bytes[i] : NONE;
        }

        private int sortAt(int i) {
            int b = byteAt(i);
            if (b >= '0' && b <= '9') {
                return DIGIT;
            }
            if (b >= 'a' && b <= 'z') {
                return LETTER;
            }
            switch (b) {
                case ' ':
                case '\n': return BLANK;
                case '(':
                case ')':
                case ';':
                case '+':
                case '-':
                case '*':
                case '<':
                case '=': return SIGN;
                default: return OTHER;
            }
        }
    }

    /** Reads a text from the tokens of THE TAPE. */
    private static final class Reader {
        private static final int MOST_OPEN = 5;

        private final Tape tape;
        private int at;
        private int token;
        private int open;
        private int fault;

        Reader(Tape tape) {
            this.tape = tape;
        }

        /** NONE, or the place of the FAULT. */
        int readInto(Text t) {
            tape.cut();
            t.clear();
            open = 0;
            fault = NONE;
            goTo(0);
            readPart(Tape.STRIKES, t);
            t.startRaises();
            readPart(Tape.RAISES, t);
            t.startWorth();
            readPart(Tape.WORTH, t);
            if (token != Tape.END) {
                fail();
            }
            return fault;
        }

        private void readPart(int key, Text t) {
            expect(key);
            readE(t);
            expect(';');
        }

        private void readE(Text t) {
            readAnd(t);
            for (int k = 0; k < TAPE && token == Text.OR; k++) {
                goTo(at + 1);
                readAnd(t);
                t.add(Text.OR);
            }
        }

        private void readAnd(Text t) {
            readNot(t);
            for (int k = 0; k < TAPE && token == Text.AND; k++) {
                goTo(at + 1);
                readNot(t);
                t.add(Text.AND);
            }
        }

        private void readNot(Text t) {
            int nots = openAll(Text.NOT);
            readSum(t);
            if (token == '<' || token == '=') {
                int sign = token == '<' ? Text.LESS : Text.LIKE;
                goTo(at + 1);
                readSum(t);
                t.add(sign);
            }
            closeAll(nots, Text.NOT, t);
        }

        private void readSum(Text t) {
            readTerm(t);
            for (int k = 0; k < TAPE && (token == '+' || token == '-'); k++) {
                int sign = token == '+' ? Text.PLUS : Text.FEWER;
                goTo(at + 1);
                readTerm(t);
                t.add(sign);
            }
        }

        private void readTerm(Text t) {
            readOne(t);
            for (int k = 0; k < TAPE && token == '*'; k++) {
                goTo(at + 1);
                readOne(t);
                t.add(Text.TIMES);
            }
        }

        private void readOne(Text t) {
            int minuses = openAll('-');
            if (token >= Tape.NUMBERS_FROM) {
                t.add(token - Tape.NUMBERS_FROM);
                goTo(at + 1);
            } else if (token <= Text.WAVE && token >= Text.SHELTER) {
                t.add(token);
                goTo(at + 1);
            } else if (token == '(' && open < MOST_OPEN) {
                open++;
                goTo(at + 1);
                readE(t);
                expect(')');
                open--;
            } else {
                fail();
            }
            closeAll(minuses, Text.MINUS, t);
        }

        /** How many of a sign stand here one behind the other; each is open until closeAll(). */
        private int openAll(int sign) {
            int many = 0;
            for (int k = 0; k < TAPE && token == sign; k++) {
                if (open < MOST_OPEN) {
                    open++;
                    many++;
                    goTo(at + 1);
                } else {
                    fail();
                }
            }
            return many;
        }

        private void closeAll(int many, int code, Text t) {
            open -= many;
            for (int k = 0; k < many; k++) {
                t.add(code);
            }
        }

        private void expect(int wanted) {
            if (token == wanted) {
                goTo(at + 1);
            } else {
                fail();
            }
        }

        private void goTo(int next) {
            if (next >= 0 && next <= TAPE) {
                at = next;
                token = tape.tokens[at];
            }
        }

        /** From the first fault on the token is WRONG, which fits nowhere: so all reading ends. */
        private void fail() {
            if (fault == NONE && at >= 0 && at <= TAPE) {
                fault = tape.starts[at];
            }
            token = Tape.WRONG;
        }
    }

    /** A row of numbers of a sort, or missing; the row itself is made once and used again. */
    private static final class Sheet {
        private final int[] row = new int[AHEAD];
        private int sort = NONE;
        private int size;

        void become(int sort, int n) {
            this.sort = sort;
            size = Math.max(0, Math.min(AHEAD, n));
            for (int i = 0; i < AHEAD; i++) {
                row[i] = 0;
            }
        }

        boolean isMissing() {
            return sort == NONE;
        }

        boolean spans(int from, int n) {
            return from >= 0 && n >= 0 && from <= size - n;
        }

        int item(int i) {
            return i >= 0 && i < size && i < AHEAD ? row[i] : 0;
        }

        boolean put(int i, int v) {
            if (i < 0 || i >= size || i >= AHEAD) {
                return false;
            }
            if (sort == BYTES) {
                row[i] = (byte) v;
            } else if (sort == SHORTS) {
                row[i] = (short) v;
            } else {
                row[i] = v;
            }
            return true;
        }
    }
}
