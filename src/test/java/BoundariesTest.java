/**
 * The boundaries of the strand and its waves: each just inside and just outside. What the document says
 * stands ahead of each test; the number ahead of a call is its promise's.
 */
public final class BoundariesTest extends Asking {
    private static final int KIND_FORT = 0, WALL = 1, HOLE = 2, TOWER = 3, TRENCH = 4, PAIL = 5;

    public static void main(String[] args) {
        newObject();
        marksThatAreSet();
        marksOfNoFort();
        kindsNumbersPlacesOfAFort();
        eightForts();
        asOneComes();
        whatIsTold();
        losesByTheStrike();
        holesByTheWave();
        holesPast999();
        losesByTheNumber();
        risesByTheSpade();
        sheltersByThePlace();
        sheltersByTheHeight();
        sheltersByTheKind();
        heightBehindAWave();
        asAllIsAheadOfIt();
        theLastWave();
        spadesUpTo99();
        spadesOfNoFort();
        noWavesAndForty();
        theFortiethWave();
        views();
        bay();
        value();
        plansOfNoneAndForty();
        plansThatTellNoFort();
        keepsByOne();
        keepsOfNone();
        bestPlaces();
        mattersByOne();
        mattersOfNone();
        wishByOne();
        wishOfNone();
        gamesOfOneToThree();
        gameOfLikeOnes();
        gameByTurns();
        gameByTheWave();
        theFirstThatIsOtherwise();
        lowestAndHighestBits();
        nothingTold();
        films();
        drawnMoons();
        drawnWaves();
        chances();
        chanceOfSeedsThatWrap();
        noImage();
        imagesOfNoneAndEight();
        imageAnew();
        counts();
        the512thCall();
        end("BoundariesTest");
    }

    /** "No FORTS.", "0 at first", "missing (as all are at first)", "TEXT 0, at first THE RULE" */
    private static void newObject() {
        Sandcastles x = new Sandcastles();
        int[] none = {0, 0, 0, 1, 0, 0};
        for (int what = 0; what < 6; what++) {
            due("1 count " + what, x.count(what), none[what]);
        }
        due("1 MOON", x.told(0, 0), 0);
        due("1 THE WAVE", x.told(0, 1), 0);
        for (int what = 2; what < 10; what++) {
            due("1 told 0 " + what, x.told(0, what), BAD);
        }
        for (int sheet = 0; sheet < 4; sheet++) {
            due("1 cell", x.cell(sheet, 0, 0), NOTHING);
        }
        due("1 back", x.back(), STATE);
        due("1 text", x.text(), -100);
        due("1 run 10", x.run(0, 10), REFUSED);
        due("1 keeps", x.keeps(0, 0), BAD);
        due("1 best", x.best(0, 0, 0), BAD);
        due("1 matters", x.matters(0, 0, 0), BAD);
        due("1 wish", x.wish(1, 40, 0), NONE);
        due("1 wish", x.wish(1, 40, 1), 0);
        due("1 game", x.game(1, 0), 0);
        due("1 game", x.game(1, 1), NONE);
        due("1 film", x.film(0, 0, 0), BAD);
        due("1 drawn", x.drawn(0, 40), 0);
        due("1 chance", x.chance(0, 20, 40, 0), 0);
        due("1 chance", x.chance(0, 20, 40, 1), 1);
        due("1 spade", x.spade(0), BAD);
        due("1 wave", x.wave(), 0);
        due("1 image", x.image(), 0);
        due("1 back", x.back(), 0);
        due("1 taken", x.taken(0, 0), NOTHING);
        Sandcastles y = new Sandcastles();
        due("1 the rule strikes 9", y.fort(0, 0, 0) + y.told(0, 7), 9);
        due("1 it raises 5", y.told(0, 8), 5);
        due("1 its worth is 10", y.run(0, 2), 10);
    }

    /** "MOON (0 .. 9)", "(0 .. 999)", "a NUMBER (0 .. 9)", "PLACES 0 .. 15", "a REALM (0, 1)", "a HEIGHT (0 .. 99)" */
    private static void marksThatAreSet() {
        int[] most = {9, 999, 9, 15, 1, 99};
        int[] first = {0, 0, 4, 5, 0, 20};
        Sandcastles x = new Sandcastles();
        x.fort(TOWER, 4, 5);
        for (int what = 0; what < 6; what++) {
            int m = most[what];
            int[] none = {-1, -2, -256, LEAST, LEAST + 1, m + 1, m + 2, m + 256, m + 1024, m + 65536, MOST};
            for (int v : none) {
                due("2 set " + what + " to " + v, x.set(what, 0, v), BAD);
            }
            due("4 it is as at first", x.told(0, what), first[what]);
            due("2 set " + what + " to the most", x.set(what, 0, m), first[what]);
            due("4 it is", x.told(0, what), m);
            for (int v : none) {
                due("2 set " + what + " to " + v, x.set(what, 0, v), BAD);
            }
            due("4 it still is", x.told(0, what), m);
            due("2 set " + what + " to one less", x.set(what, 0, m - 1), m);
            due("2 set " + what + " to 0", x.set(what, 0, 0), m - 1);
            due("4 it is", x.told(0, what), 0);
            due("2 set " + what + " to 0 again", x.set(what, 0, 0), 0);
        }
        for (int what : new int[] {-1, -2, 6, 7, 8, 9, 10, 256, LEAST, MOST}) {
            due("2 set " + what, x.set(what, 0, 0), BAD);
        }
        due("4 KIND is as it was", x.told(0, 6), TOWER);
    }

    /** "MOON (what 0; of does not matter)"; of the others no such FORT: BAD */
    private static void marksOfNoFort() {
        Sandcastles x = new Sandcastles();
        int[] any = {-1, 0, 1, 7, 8, 9, 256, LEAST, MOST};
        for (int i = 0; i < any.length; i++) {
            due("2 MOON of " + any[i], x.set(0, any[i], i + 1), i);
            due("4 MOON of " + any[i], x.told(any[i], 0), i + 1);
            due("2 THE WAVE of " + any[i], x.set(1, any[i], i + 1), i);
            due("4 THE WAVE of " + any[i], x.told(any[i], 1), i + 1);
            for (int what = 2; what < 6; what++) {
                due("2 set " + what + " of " + any[i], x.set(what, any[i], 0), BAD);
            }
        }
        x.fort(0, 3, 3);
        for (int of : any) {
            for (int what = 2; what < 6 && of != 0; what++) {
                due("2 set " + what + " of " + of + ", of one", x.set(what, of, 0), BAD);
            }
        }
        due("4 NUMBER", x.told(0, 2), 3);
        due("4 PLACE", x.told(0, 3), 3);
        due("4 HEIGHT", x.told(0, 5), 20);
    }

    /** "a KIND: 0 .. 5", "a NUMBER (0 .. 9)", "PLACES 0 .. 15": "BAD" */
    private static void kindsNumbersPlacesOfAFort() {
        Sandcastles x = new Sandcastles();
        for (int v : new int[] {-1, -2, -256, LEAST, 16, 17, 256, 65536, MOST}) {
            due("3 kind " + v, x.fort(v, 0, 0), BAD);
            due("3 number " + v, x.fort(0, v, 0), BAD);
            due("3 place " + v, x.fort(0, 0, v), BAD);
            due("3 all " + v, x.fort(v, v, v), BAD);
        }
        due("3 kind 6", x.fort(6, 0, 0), BAD);
        due("3 kind 7", x.fort(7, 0, 0), BAD);
        due("3 number 10", x.fort(0, 10, 0), BAD);
        due("3 number 15", x.fort(0, 15, 0), BAD);
        due("3 none came", x.count(0), 0);
        due("3 the least", x.fort(0, 0, 0), 0);
        due("3 the most", x.fort(5, 9, 15), 1);
        due("3 kind", x.told(1, 6), 5);
        due("3 number", x.told(1, 2), 9);
        due("3 place", x.told(1, 3), 15);
        due("3 kind 6, all else as it may be", x.fort(6, 9, 15), BAD);
        due("3 number 10, all else as it may be", x.fort(5, 10, 15), BAD);
        due("3 place 16, all else as it may be", x.fort(5, 9, 16), BAD);
        due("3 two came", x.count(0), 2);
    }

    /** "FORTS (8 at most, numbered from 0)": "A FORT: its number. BAD; FULL." */
    private static void eightForts() {
        Sandcastles x = new Sandcastles();
        for (int i = 0; i < 8; i++) {
            due("3 not yet", x.told(i, 5), BAD);
            due("3 fort " + i, x.fort(0, i, i), i);
            due("3 so many", x.count(0), i + 1);
        }
        due("3 the ninth", x.fort(0, 0, 0), FULL);
        due("3 again", x.fort(5, 9, 15), FULL);
        due("3 BAD ahead of FULL", x.fort(6, 0, 0), BAD);
        due("3 BAD ahead of FULL", x.fort(0, 10, 0), BAD);
        due("3 BAD ahead of FULL", x.fort(0, 0, 16), BAD);
        due("3 BAD ahead of FULL", x.fort(-1, 0, 0), BAD);
        due("3 eight", x.count(0), 8);
        due("4 fort 7", x.told(7, 2), 7);
        due("4 fort 8", x.told(8, 2), BAD);
        due("2 fort 7", x.set(5, 7, 1), 20);
        due("2 fort 8", x.set(5, 8, 1), BAD);
        due("9 fort 7", x.spade(7), 6);
        due("9 fort 8", x.spade(8), BAD);
        due("10 height of fort 7", x.run(0, 17), 6);
        due("10 height of fort 8", x.run(0, 18), REFUSED);
        due("12 fort 7", x.keeps(7, 0), 0);
        due("12 fort 8", x.keeps(8, 0), BAD);
        due("28 fort 7", x.taken(7, 0), 7);
        due("28 fort 8", x.taken(8, 0), NOTHING);
        due("10 all stand", x.run(0, 0), 255);
    }

    /** "0 as one comes", "20 as one comes" */
    private static void asOneComes() {
        Sandcastles x = new Sandcastles();
        x.image();
        for (int time = 0; time < 3; time++) {
            for (int i = 0; i < 8; i++) {
                due("3 fort", x.fort(i % 6, 9, 15), i);
                due("3 realm", x.told(i, 4), 0);
                due("3 height", x.told(i, 5), 20);
                x.set(4, i, 1);
                x.set(5, i, 99);
            }
            due("22 they go", x.back(), 0);
        }
    }

    /** "What 0 .. 5 as of set(), 6 KIND, 7 LOSES (now), 8 RISES (now), 9 how many shelter it. BAD." */
    private static void whatIsTold() {
        Sandcastles x = new Sandcastles();
        x.fort(TRENCH, 3, 6);
        x.fort(KIND_FORT, 0, 5);
        x.set(0, 0, 2);
        x.set(1, 0, 4);
        int[] due = {2, 4, 3, 6, 0, 20, 4, 2 * (9 + 2 - 6 - 1), 3, 1};
        for (int what = 0; what < 10; what++) {
            due("4 told " + what, x.told(0, what), due[what]);
        }
        for (int what : new int[] {-1, -2, 10, 11, 256, LEAST, MOST}) {
            due("4 told " + what, x.told(0, what), BAD);
            due("4 told " + what + " of no fort", x.told(2, what), BAD);
        }
        for (int of : new int[] {-1, -2, 2, 7, 8, 9, 256, LEAST, MOST}) {
            for (int what = 2; what < 10; what++) {
                due("4 told " + what + " of " + of, x.told(of, what), BAD);
            }
        }
    }

    private static Sandcastles kindsByWaveLess500(int number) {
        Sandcastles x = by("wave - 500", "wave - 500", "0");
        for (int kind = 0; kind < 6; kind++) {
            x.fort(kind, number, 0);
        }
        return x;
    }

    /** "half (cut)", "0 at least, in the end", "strikes (0 .. 99, else the bound)" */
    private static void losesByTheStrike() {
        Sandcastles x = kindsByWaveLess500(3);
        // THE WAVE, and what FORT, WALL, HOLE, TOWER, TRENCH, PAIL lose; a HOLE is dry each fifth
        int[][] due = {
            {0, 0, 0, 0, 3, 0, 0}, {499, 0, 0, 0, 3, 0, 0}, {501, 1, 0, 1, 3, 2, 0}, {502, 2, 1, 2, 4, 4, 0},
            {503, 3, 1, 3, 4, 6, 0}, {504, 4, 2, 4, 5, 8, 1}, {505, 5, 2, 0, 5, 0, 2}, {598, 98, 49, 98, 52, 196, 95},
            {599, 99, 49, 99, 52, 198, 96}, {601, 99, 49, 99, 52, 198, 96}, {999, 99, 49, 99, 52, 198, 96},
        };
        for (int[] d : due) {
            x.set(1, 0, d[0]);
            for (int kind = 0; kind < 6; kind++) {
                due("4 kind " + kind + " loses at wave " + d[0], x.told(kind, 7), d[kind + 1]);
            }
        }
    }

    /** "but 0, if THE WAVE modulo (NUMBER and 2) is 0" */
    private static void holesByTheWave() {
        for (int number = 0; number < 10; number++) {
            Sandcastles x = by("7", "0", "0");
            x.fort(HOLE, number, 0);
            x.fort(TRENCH, number, 0);
            int every = number + 2;
            int[] dry = {0, every, 2 * every, 83 * every};
            for (int wave : dry) {
                x.set(1, 0, wave);
                due("4 a hole at wave " + wave, x.told(0, 7), 0);
                due("4 a trench at wave " + wave, x.told(1, 7), 0);
                x.set(1, 0, wave + 1);
                due("4 a hole at wave " + (wave + 1), x.told(0, 7), 7);
                due("4 a trench at wave " + (wave + 1), x.told(1, 7), 14);
                if (wave > 0) {
                    x.set(1, 0, wave - 1);
                    due("4 a hole at wave " + (wave - 1), x.told(0, 7), 7);
                    due("4 a trench at wave " + (wave - 1), x.told(1, 7), 14);
                }
            }
        }
    }

    /** "in thought (there THE WAVE may pass 999)" */
    private static void holesPast999() {
        Sandcastles x = by("7", "0", "0");
        for (int number : new int[] {0, 9}) {
            int f = x.fort(HOLE, number, 0);
            x.set(5, f, 99);
        }
        x.set(1, 0, 999);
        // each second wave is dry, 1000 among them; each eleventh, 1001 among them
        int[] second = {99, 92, 92, 85, 85, 78};
        int[] eleventh = {99, 92, 85, 85, 78, 71};
        for (int n = 0; n < 6; n++) {
            due("10 each second, " + n, x.run(n, 10), second[n]);
            due("10 each eleventh, " + n, x.run(n, 11), eleventh[n]);
        }
        row(x, 0, 0, -1, -1, -1);
        due("11 each second", x.plan(0, 10), 85);
        x.film(1, 1, 5);
        row(x, 2, 1, 92, 85, 85, 78, 71);
        due("18 as filmed", x.tells(1, 1, 0), NONE);
        due("17 as told", x.tells(2, 1, 0), NONE);
        due("17 not of the other", x.tells(2, 0, 0), 1);
        due("19 drawn", x.drawn(0, 14), 3);
        due("8 truly it may not", x.wave(), STATE);
        due("23 THE WAVE", x.count(2), 999);
    }

    /** "TOWER: NUMBER more than a WALL", "PAIL: v less NUMBER": NUMBER 0 and 9 */
    private static void losesByTheNumber() {
        for (int v : new int[] {0, 1, 8, 9, 10, 99}) {
            Sandcastles x = by("" + v, "0", "0");
            x.fort(TOWER, 0, 0);
            x.fort(TOWER, 9, 0);
            x.fort(PAIL, 0, 0);
            x.fort(PAIL, 9, 0);
            due("4 tower 0 by " + v, x.told(0, 7), v / 2);
            due("4 tower 9 by " + v, x.told(1, 7), v / 2 + 9);
            due("4 pail 0 by " + v, x.told(2, 7), v);
            due("4 pail 9 by " + v, x.told(3, 7), v < 9 ? 0 : v - 9);
        }
    }

    /** "1 more than a FORT", "half (cut) of a FORT's", "raises (0 .. 20, else the bound)" */
    private static void risesByTheSpade() {
        Sandcastles x = kindsByWaveLess500(9);
        int[][] due = {
            {0, 0, 1, 0, 1, 1, 0}, {499, 0, 1, 0, 1, 1, 0}, {500, 0, 1, 0, 1, 1, 0}, {501, 1, 2, 0, 2, 1, 1},
            {502, 2, 3, 1, 3, 2, 2}, {503, 3, 4, 1, 4, 2, 3}, {519, 19, 20, 9, 20, 10, 19}, {520, 20, 21, 10, 21, 11, 20},
            {521, 20, 21, 10, 21, 11, 20}, {999, 20, 21, 10, 21, 11, 20},
        };
        for (int[] d : due) {
            x.set(1, 0, d[0]);
            for (int kind = 0; kind < 6; kind++) {
                due("4 kind " + kind + " rises at wave " + d[0], x.told(kind, 8), d[kind + 1]);
                x.set(5, kind, 0);
                due("9 kind " + kind + " by a spade at wave " + d[0], x.spade(kind), d[kind + 1]);
            }
        }
    }

    /** "those on PLACES above its own", "on PLACES below its own" */
    private static void sheltersByThePlace() {
        Sandcastles x = new Sandcastles();
        x.fort(0, 0, 7);
        x.fort(0, 0, 7);
        int[] due = {0, 0, 0, 0, 0, 0, 0, 0, 1, 1, 1, 1, 1, 1, 1, 1};
        for (int place = 0; place < 16; place++) {
            x.set(3, 1, place);
            due("4 at place " + place, x.told(1, 9), due[place]);
            due("4 at 7, the other at " + place, x.told(0, 9), place < 7 ? 1 : 0);
        }
        x.set(3, 0, 0);
        due("4 at 15, the other at 0", x.told(1, 9), 1);
        due("4 at 0, the other at 15", x.told(0, 9), 0);
        for (int i = 2; i < 8; i++) {
            x.fort(0, 0, 14);
        }
        due("4 all others", x.told(1, 9), 7);
        due("4 the one at the sea", x.told(7, 9), 1);
    }

    /** "how many FORTS STAND": "it STANDS, if HEIGHT is above 0" */
    private static void sheltersByTheHeight() {
        Sandcastles x = new Sandcastles();
        x.fort(0, 0, 0);
        x.fort(0, 0, 1);
        int[] heights = {0, 1, 2, 99};
        for (int h : heights) {
            x.set(5, 0, h);
            due("4 sheltered by height " + h, x.told(1, 9), h > 0 ? 1 : 0);
            due("10 stands with " + h, x.run(0, 0), h > 0 ? 3 : 2);
            due("23 stands with " + h, x.count(1), h > 0 ? 2 : 1);
        }
        x.set(5, 1, 0);
        due("4 also one that doesn't stand", x.told(1, 9), 1);
        x.set(4, 0, 1);
        due("4 of whichever realm", x.told(1, 9), 1);
    }

    /** "HOLE: no; TRENCH: yes; all others: yes" */
    private static void sheltersByTheKind() {
        for (int kind = 0; kind < 6; kind++) {
            Sandcastles x = new Sandcastles();
            x.fort(kind, 0, 0);
            x.fort(HOLE, 0, 1);
            due("4 sheltered by kind " + kind, x.told(1, 9), kind == HOLE ? 0 : 1);
        }
    }

    /** "lose what they LOSE .. (HEIGHT 0 at least)" */
    private static void heightBehindAWave() {
        int[][] due = {{1, 0}, {8, 0}, {9, 0}, {10, 1}, {11, 2}, {99, 90}, {0, 0}};
        for (int[] d : due) {
            Sandcastles x = new Sandcastles();
            put(x, 0, 0, d[0]);
            due("10 height " + d[0], x.run(1, 10), d[1]);
            due("10 stands", x.run(1, 0), d[1] > 0 ? 1 : 0);
            due("8 stands", x.wave(), d[1] > 0 ? 1 : 0);
            due("8 height " + d[0], x.told(0, 5), d[1]);
        }
        Sandcastles none = by("0 - 5", "0", "0");
        put(none, 0, 0, 99);
        due("8 a strike below 0 raises none", none.wave(), 1);
        due("8 99", none.told(0, 5), 99);
    }

    /** "as all is ahead of it" */
    private static void asAllIsAheadOfIt() {
        Sandcastles x = by("9 - 9 * shelter", "0", "0");
        put(x, 0, 0, 9);
        put(x, 1, 0, 9);
        due("8 the first falls, but shelters till then", x.wave(), 2);
        due("8 the other has lost nothing", x.told(1, 5), 9);
        due("8 now none shelters it", x.wave(), 0);
        Sandcastles y = by("wave", "0", "0");
        put(y, 0, 0, 10);
        due("8 by THE WAVE ahead of it", y.wave() + y.told(0, 5), 1 + 10);
        due("8 by THE WAVE ahead of it", y.wave() + y.told(0, 5), 1 + 9);
    }

    /** "THE WAVE is 1 more", "STATE: THE WAVE is 999." */
    private static void theLastWave() {
        Sandcastles x = by("1", "0", "0");
        put(x, 0, 0, 50);
        due("8 wave", x.wave(), 1);
        due("8 THE WAVE", x.count(2), 1);
        x.set(1, 0, 997);
        due("8 997", x.wave(), 1);
        due("8 998", x.wave(), 1);
        due("8 THE WAVE", x.count(2), 999);
        due("8 999", x.wave(), STATE);
        due("8 999 again", x.wave(), STATE);
        due("8 THE WAVE stays", x.told(0, 1), 999);
        due("8 nothing is lost", x.told(0, 5), 47);
        due("10 in thought it goes on", x.run(40, 10), 7);
        due("9 a spade is no wave", x.spade(0), 47);
        x.set(1, 0, 998);
        due("8 998 again", x.wave(), 1);
        due("8 46", x.told(0, 5), 46);
    }

    /** "it RISES (99 at most), also one that doesn't STAND" */
    private static void spadesUpTo99() {
        Sandcastles x = new Sandcastles();
        x.fort(0, 0, 0);
        int[][] due = {{0, 5}, {1, 6}, {93, 98}, {94, 99}, {95, 99}, {98, 99}, {99, 99}};
        row(x, 0, 0, 0);
        for (int[] d : due) {
            x.set(5, 0, d[0]);
            due("11 height " + d[0], x.plan(0, 10), Math.max(0, d[1] - 9));
            due("9 height " + d[0], x.spade(0), d[1]);
            due("9 it is", x.told(0, 5), d[1]);
        }
        Sandcastles y = by("0", "height + 1 - 1", "99 - height");
        int f = put(y, 0, 1, 90);
        due("16 in a game, too: 99 at most", y.game(1, 0), -9);
        due("9 99 at most", y.spade(f), 99);
    }

    private static void spadesOfNoFort() {
        Sandcastles x = new Sandcastles();
        x.fort(0, 0, 0);
        for (int f : new int[] {-1, -2, 1, 7, 8, 256, LEAST, MOST}) {
            due("9 spade " + f, x.spade(f), BAD);
        }
        due("9 none rose", x.told(0, 5), 20);
    }

    /** "n WAVES (0 .. 40)" */
    private static void noWavesAndForty() {
        Sandcastles x = by("1", "0", "1");
        put(x, 3, 0, 41);
        put(x, 4, 1, 40);
        int[] none = {-1, -2, 41, 42, 256, 65536, LEAST, MOST};
        for (int n : none) {
            due("10 run " + n, x.run(n, 0), REFUSED);
            due("12 keeps " + n, x.keeps(0, n), BAD);
            due("13 best " + n, x.best(0, n, 0), BAD);
            due("13 best " + n, x.best(0, n, 1), BAD);
            due("14 matters " + n, x.matters(0, n, 0), BAD);
            due("14 matters " + n, x.matters(0, n, 1), BAD);
            due("15 wish " + n, x.wish(0, n, 0), REFUSED);
            due("15 wish " + n, x.wish(0, n, 1), REFUSED);
            due("18 film " + n, x.film(0, 0, n), BAD);
            due("19 drawn " + n, x.drawn(0, n), BAD);
            due("20 chance " + n, x.chance(0, 1, n, 0), Sandcastles.NO);
            due("20 chance " + n, x.chance(0, 1, n, 1), Sandcastles.NO);
        }
        due("18 nothing was filmed", x.cell(0, 0, 0), NOTHING);
        due("10 no wave", x.run(0, 10), 41);
        due("10 no wave", x.run(0, 0), 3);
        due("10 forty", x.run(40, 10), 1);
        due("10 forty", x.run(40, 0), 1);
        due("10 thirty-nine", x.run(39, 0), 3);
        due("12 no wave", x.keeps(1, 0), 0);
        due("12 thirty-nine", x.keeps(1, 39), 0);
        due("12 forty", x.keeps(1, 40), 1);
        due("13 no wave", x.best(0, 0, 1), 41);
        due("13 forty", x.best(0, 40, 1), 1);
        due("14 no wave", x.matters(0, 0, 1), 41);
        due("14 forty", x.matters(0, 40, 1), 1);
        due("15 no wave", x.wish(0, 0, 1), 1);
        due("15 forty", x.wish(1, 40, 1), 0);
        due("18 no wave", x.film(0, 0, 0), 0);
        due("18 forty", x.film(0, 0, 40), 40);
        due("19 no wave", x.drawn(0, 0), 3);
        due("19 forty", x.drawn(0, 40), 1);
        due("20 no wave", x.chance(0, 1, 0, 0), 1);
        due("20 forty", x.chance(0, 1, 40, 0), 1);
    }

    /** The fortieth wave is the last that counts. */
    private static void theFortiethWave() {
        Sandcastles x = by("50 * (wave = 39) - 25 * (place = 9)", "0", "height");
        put(x, 0, 0, 40);
        put(x, 0, 1, 30);
        due("10 run 39", x.run(39, 10), 40);
        due("10 run 40", x.run(40, 10), 0);
        due("10 value 39", x.run(39, 2), 10);
        due("10 value 40", x.run(40, 2), 0);
        due("12 keeps 39", x.keeps(0, 39), 0);
        due("12 keeps 40", x.keeps(0, 40), 11);
        due("13 best 39", x.best(0, 39, 0), 0);
        due("13 best 40", x.best(0, 40, 0), 9);
        due("13 best 40", x.best(0, 40, 1), 15);
        due("15 wish 39", x.wish(0, 39, 1), 40);
        due("15 wish 40", x.wish(0, 40, 1), 0);
        due("15 wish 40", x.wish(0, 40, 0), NONE);
        due("19 drawn 39", x.drawn(7, 39), 3);
        due("19 drawn 40", x.drawn(7, 40), 0);
        due("20 chance 39", x.chance(7, 20, 39, 0), 1);
        due("20 chance 40", x.chance(7, 20, 40, 0), 0);
        x.film(0, 0, 40);
        due("18 film 40", x.tells(0, 0, 0), NONE);
        x.cell(0, 39, 40);
        due("17 the fortieth is otherwise", x.tells(0, 0, 0), 39);
        due("17 the fortieth at place 9", x.cell(0, 39, 15) + x.tells(0, 0, 4), 1 + 512);
        Sandcastles y = by("50 * (wave = 39) * (shelter = 0)", "0", "0");
        put(y, 0, 0, 99);
        put(y, 1, 0, 99);
        due("14 matters 39", y.matters(1, 39, 0), NONE);
        due("14 matters 40", y.matters(1, 40, 0), 0);
        due("14 matters 40", y.matters(1, 40, 1), 49);
        Sandcastles z = by("60 * (wave = 40)", "0", "0");
        put(z, 0, 0, 50);
        due("10 no forty-first", z.run(40, 10), 50);
        z.film(0, 0, 40);
        due("11 no forty-first", z.wave() + z.run(39, 10), 1 + 50);
        due("10 it would come", z.run(40, 10), 0);
    }

    /** "-100000: n, what, no such FORT": what 0 .. 2, and 10 .. */
    private static void views() {
        Sandcastles x = by("1", "0", "7");
        row(x, 0, 0, -1);
        int[] none = {-1, -2, 3, 4, 9, 10, 11, 17, 18, 266, LEAST, LEAST + 9, LEAST + 10, LEAST + 11, MOST - 10, MOST};
        for (int what : none) {
            due("10 what " + what + ", no fort", x.run(0, what), REFUSED);
            due("11 what " + what + ", no fort", x.plan(0, what), REFUSED);
        }
        put(x, 0, 0, 30);
        put(x, 0, 1, 40);
        int[] due = {3, 1, 0};
        for (int what = 0; what < 3; what++) {
            due("10 what " + what, x.run(1, what), due[what]);
            due("11 what " + what, x.plan(0, what), due[what]);
        }
        due("10 what 10", x.run(1, 10), 29);
        due("10 what 11", x.run(1, 11), 39);
        due("11 what 10", x.plan(0, 10), 29);
        due("11 what 11", x.plan(0, 11), 39);
        for (int what : none) {
            if (what != 10 && what != 11) {
                due("10 what " + what, x.run(0, what), REFUSED);
                due("11 what " + what, x.plan(0, what), REFUSED);
            }
        }
        due("10 what 12", x.run(0, 12), REFUSED);
        due("11 what 12", x.plan(0, 12), REFUSED);
    }

    /** "the REALM of which more FORTS STAND; if as many do, that whose HEIGHTS, together, are more; NONE: neither" */
    private static void bay() {
        Sandcastles x = by("0", "0", "0");
        due("10 no forts", x.run(0, 1), NONE);
        put(x, 0, 0, 0);
        due("10 none stands", x.run(0, 1), NONE);
        x.set(5, 0, 1);
        due("10 one of realm 0", x.run(0, 1), 0);
        put(x, 0, 1, 0);
        due("10 the other does not stand", x.run(0, 1), 0);
        x.set(5, 1, 1);
        due("10 one and one, 1 and 1", x.run(0, 1), NONE);
        x.set(5, 0, 2);
        due("10 one and one, 2 and 1", x.run(0, 1), 0);
        x.set(5, 1, 3);
        due("10 one and one, 2 and 3", x.run(0, 1), 1);
        put(x, 0, 0, 1);
        due("10 two and one, 3 and 3", x.run(0, 1), 0);
        x.set(5, 1, 99);
        due("10 two and one, 3 and 99", x.run(0, 1), 0);
        put(x, 0, 1, 1);
        due("10 two and two, 3 and 100", x.run(0, 1), 1);
        x.set(5, 1, 2);
        due("10 two and two, 3 and 3", x.run(0, 1), NONE);
        put(x, 0, 1, 1);
        due("10 two and three", x.run(0, 1), 1);
        x.set(5, 0, 99);
        due("10 two and three, though higher", x.run(0, 1), 1);
        Sandcastles full = by("0", "0", "0");
        for (int i = 0; i < 8; i++) {
            put(full, 0, i % 2, 99);
        }
        due("10 four and four, as high", full.run(0, 1), NONE);
        full.set(5, 7, 98);
        due("10 four and four, 1 more", full.run(0, 1), 0);
    }

    /** "worth of its FORTS that STAND less that of the other's, together" */
    private static void value() {
        Sandcastles x = by("0", "0", "99");
        for (int i = 0; i < 8; i++) {
            put(x, 0, 1, 1);
        }
        due("10 the least", x.run(0, 2), -8 * 99);
        due("15 of realm 1 the most", x.wish(1, 0, 1), 8 * 99);
        x.set(5, 0, 0);
        due("10 one lies", x.run(0, 2), -7 * 99);
        x.set(4, 1, 0);
        due("10 one is realm 0's", x.run(0, 2), -5 * 99);
        for (int i = 0; i < 8; i++) {
            x.set(5, i, 0);
        }
        due("10 none stands", x.run(0, 2), 0);
        Sandcastles y = by("0", "0", "wave");
        put(y, 0, 0, 1);
        due("10 worth behind the waves", y.run(40, 2), 40);
        y.set(1, 0, 999);
        due("10 worth 99 at most", y.run(40, 2), 99);
    }

    /** "a SHEET tells, for each of its WAVES (40 at most), the FORT that has A SPADE ahead of it" */
    private static void plansOfNoneAndForty() {
        Sandcastles x = by("6", "5", "0");
        put(x, 0, 0, 41);
        for (int sort = 0; sort < 3; sort++) {
            row(x, 0, sort);
            due("11 no waves", x.plan(0, 10), 41);
            row(x, 0, sort, 0);
            due("11 one", x.plan(0, 10), 40);
            row(x, 0, sort, -1);
            due("11 one, none is raised", x.plan(0, 10), 35);
            row(x, 0, sort, new int[39]);
            due("11 thirty-nine", x.plan(0, 10), 2);
            row(x, 0, sort, new int[40]);
            due("11 forty", x.plan(0, 10), 1);
            x.cell(0, 39, -1);
            due("11 forty, none ahead of the last", x.plan(0, 10), 0);
        }
        due("24 no forty-one", x.sheet(0, 0, 41), BAD);
        for (int sheet : new int[] {-1, 4, 5, 256, LEAST, MOST}) {
            due("11 sheet " + sheet, x.plan(sheet, 0), REFUSED);
        }
        for (int sheet = 1; sheet < 4; sheet++) {
            due("11 missing", x.plan(sheet, 0), REFUSED);
            row(x, sheet, 0, 0);
            due("11 no more", x.plan(sheet, 0), 1);
        }
        due("24 missing again", x.sheet(3, -1, 0), 1);
        due("11 missing again", x.plan(3, 0), REFUSED);
    }

    /** "it tells one that is no FORT (but NONE)" */
    private static void plansThatTellNoFort() {
        Sandcastles x = by("1", "5", "0");
        row(x, 0, 2, -1);
        due("11 none of no forts", x.plan(0, 0), 0);
        row(x, 0, 2, 0);
        due("11 fort 0 of no forts", x.plan(0, 0), REFUSED);
        put(x, 0, 0, 20);
        put(x, 0, 0, 20);
        int[] none = {-2, -3, 2, 3, 7, 8, 127, LEAST, LEAST + 1, MOST};
        for (int f : none) {
            row(x, 0, 2, f, 0, 0);
            due("11 first " + f, x.plan(0, 0), REFUSED);
            row(x, 0, 2, 0, 0, f);
            due("11 last " + f, x.plan(0, 0), REFUSED);
        }
        row(x, 0, 2, 0, 1, -1);
        due("11 all are", x.plan(0, 11), 20 + 5 - 3);
        for (int sort = 0; sort < 2; sort++) {
            int bits = sort == 0 ? 256 : 65536;
            row(x, 1, sort, bits - 1, bits, bits + 1);
            due("11 its lowest bits", x.plan(1, 11), 20 + 5 - 3);
            row(x, 1, sort, bits + 2);
            due("11 its lowest bits are no fort", x.plan(1, 0), REFUSED);
            row(x, 1, sort, bits - 2);
            due("11 its lowest bits are no fort", x.plan(1, 0), REFUSED);
            row(x, 2, sort + 1, bits - 1);
            due("11 of a wider sort no fort", x.plan(2, 0), REFUSED);
            row(x, 2, sort + 1, bits);
            due("11 of a wider sort no fort", x.plan(2, 0), REFUSED);
        }
        x.image();
        x.fort(0, 0, 0);
        row(x, 3, 0, 2);
        due("11 fort 2 came", x.plan(3, 0), 7);
        x.back();
        due("11 fort 2 went", x.plan(3, 0), REFUSED);
    }

    /** "the least by which (0 .. 99 less its HEIGHT) .. it would STAND behind them" */
    private static void keepsByOne() {
        Sandcastles x = by("wave - 500", "0", "0");
        x.fort(0, 0, 0);
        int[][] due = {
            // THE WAVE, HEIGHT, KEEPS one wave
            {500, 20, 0}, {519, 20, 0}, {520, 20, 1}, {521, 20, 2}, {597, 20, 78}, {598, 20, 79}, {599, 20, NONE},
            {999, 20, NONE}, {598, 98, 1}, {598, 99, 0}, {599, 99, NONE}, {599, 98, NONE}, {598, 0, 99}, {597, 0, 98},
            {599, 0, NONE}, {500, 0, 1}, {500, 1, 0}, {501, 1, 1}, {499, 0, 1},
        };
        for (int[] d : due) {
            x.set(1, 0, d[0]);
            x.set(5, 0, d[1]);
            due("12 " + d[1] + " at wave " + d[0], x.keeps(0, 1), d[2]);
            due("12 now", x.keeps(0, 0), d[1] > 0 ? 0 : 1);
            due("12 in thought", x.told(0, 5), d[1]);
        }
    }

    private static void keepsOfNone() {
        Sandcastles x = new Sandcastles();
        due("12 no fort", x.keeps(0, 0), BAD);
        x.fort(0, 0, 0);
        for (int f : new int[] {-1, -2, 1, 7, 8, 256, LEAST, MOST}) {
            due("12 keeps " + f, x.keeps(f, 0), BAD);
            due("12 keeps " + f, x.keeps(f, 41), BAD);
        }
        Sandcastles odd = by("99 * (height < 30 or 30 < height)", "0", "0");
        put(odd, 0, 0, 29);
        due("12 by one", odd.keeps(0, 1), 1);
        odd.set(5, 0, 30);
        due("12 by none", odd.keeps(0, 1), 0);
        odd.set(5, 0, 31);
        due("12 it can't be lower", odd.keeps(0, 1), NONE);
    }

    /** "the PLACE from which its HEIGHT would be most behind them; of like ones the first" */
    private static void bestPlaces() {
        for (int place = 0; place < 16; place++) {
            Sandcastles x = by("10 - (place = " + place + ")", "0", "0");
            put(x, 15 - place, 0, 20);
            due("13 best is " + place, x.best(0, 1, 0), place);
            due("13 height then", x.best(0, 1, 1), 11);
            due("13 no wave: of like ones the first", x.best(0, 0, 0), 0);
            due("13 it stays where it is", x.told(0, 3), 15 - place);
        }
        Sandcastles two = by("10 - (place = 6 or place = 11)", "0", "0");
        put(two, 11, 0, 20);
        due("13 of two the first", two.best(0, 1, 0), 6);
        two.set(5, 0, 9);
        due("13 all fall: the first", two.best(0, 1, 0), 0);
        due("13 all fall", two.best(0, 1, 1), 0);
        two.set(5, 0, 10);
        due("13 two do not", two.best(0, 1, 0), 6);
        due("13 two do not", two.best(0, 1, 1), 1);
        two.set(5, 0, 0);
        due("13 it lies", two.best(0, 40, 0), 0);
        Sandcastles far = by("20 - place", "0", "0");
        put(far, 0, 0, 20);
        due("13 none is farther than 15", far.best(0, 1, 0), 15);
        due("13 none is farther than 15", far.best(0, 1, 1), 15);
        for (int f : new int[] {-1, -2, 1, 7, 8, LEAST, MOST}) {
            due("13 best " + f, two.best(f, 0, 0), BAD);
        }
        for (int what : new int[] {-1, -2, 2, 3, 10, LEAST, MOST}) {
            due("13 what " + what, two.best(0, 0, what), BAD);
        }
    }

    /** "would be least behind them, if less than so; of like ones the first" */
    private static void mattersByOne() {
        Sandcastles x = by("20 - 5 * shelter + 1 * (place = 9)", "0", "0");
        put(x, 9, 0, 40);
        put(x, 8, 0, 1);
        put(x, 7, 1, 50);
        put(x, 6, 0, 0);
        put(x, 5, 0, 50);
        put(x, 9, 0, 50);
        put(x, 10, 0, 50);
        // three shelter fort 0: those of place 8, 7, 5; the other realm's does not count
        due("14 the first of like ones", x.matters(0, 1, 0), 1);
        due("14 by five", x.matters(0, 1, 1), 40 - 11);
        due("14 one that falls soon matters less", x.matters(0, 2, 0), 4);
        due("14 of no wave", x.matters(0, 0, 0), NONE);
        due("14 of no wave", x.matters(0, 0, 1), 40);
        due("14 at the sea", x.matters(4, 1, 0), NONE);
        due("14 as so", x.matters(4, 1, 1), 30);
        x.set(5, 0, 11);
        due("14 0 anyway or not", x.matters(0, 1, 0), 1);
        due("14 0 then", x.matters(0, 1, 1), 0);
        x.set(5, 0, 6);
        due("14 0 so: none can be less", x.matters(0, 1, 0), NONE);
        due("14 0 so", x.matters(0, 1, 1), 0);
        x.set(5, 0, 7);
        due("14 1 so", x.matters(0, 1, 0), 1);
        x.set(4, 1, 1);
        due("14 without the first", x.matters(0, 1, 0), 4);
        x.set(4, 4, 1);
        due("14 none of its realm", x.matters(0, 1, 0), NONE);
        due("14 as so", x.matters(0, 1, 1), 1);
        x.set(4, 0, 1);
        due("14 of realm 1", x.matters(0, 1, 0), 1);
    }

    private static void mattersOfNone() {
        Sandcastles x = new Sandcastles();
        due("14 no fort", x.matters(0, 0, 0), BAD);
        put(x, 0, 0, 30);
        due("14 one alone", x.matters(0, 3, 0), NONE);
        due("14 as so", x.matters(0, 3, 1), 3);
        for (int f : new int[] {-1, -2, 1, 7, 8, LEAST, MOST}) {
            due("14 matters " + f, x.matters(f, 0, 0), BAD);
        }
        for (int what : new int[] {-1, -2, 2, 3, 10, LEAST, MOST}) {
            due("14 what " + what, x.matters(0, 0, what), BAD);
        }
        Sandcastles full = by("8 - shelter", "0", "0");
        for (int i = 0; i < 8; i++) {
            put(full, 8 - i, 0, 99);
        }
        due("14 the last may matter to the first", full.matters(0, 1, 1), 97);
        for (int i = 1; i < 7; i++) {
            full.set(4, i, 1);
        }
        due("14 fort 7 matters", full.matters(0, 1, 0), 7);
    }

    /** "without which its VALUE behind them would be most, if more than so; of like ones the first" */
    private static void wishByOne() {
        Sandcastles x = by("10", "0", "number");
        put(x, 0, 0, 99);
        put(x, 0, 1, 99);
        put(x, 0, 1, 10);
        put(x, 0, 1, 99);
        x.set(2, 0, 5);
        due("15 worth nothing: none", x.wish(0, 1, 0), NONE);
        due("15 as so", x.wish(0, 1, 1), 5);
        x.set(2, 3, 1);
        due("15 more by one", x.wish(0, 1, 0), 3);
        due("15 more by one", x.wish(0, 1, 1), 5);
        x.set(2, 1, 1);
        due("15 of like ones the first", x.wish(0, 1, 0), 1);
        due("15 of like ones the first", x.wish(0, 1, 1), 4);
        x.set(2, 3, 2);
        due("15 the dearest", x.wish(0, 1, 0), 3);
        x.set(2, 2, 9);
        due("15 now the dearest", x.wish(0, 0, 0), 2);
        due("15 it falls anyway", x.wish(0, 1, 0), 3);
        due("15 realm 1's wish", x.wish(1, 1, 0), 0);
        due("15 realm 1's value then", x.wish(1, 1, 1), 3);
        x.set(5, 0, 10);
        due("15 realm 1 need not wish", x.wish(1, 1, 0), NONE);
        due("15 realm 1's value so", x.wish(1, 1, 1), 3);
        Sandcastles shelter = by("20 - 20 * shelter", "0", "10");
        put(shelter, 0, 1, 50);
        put(shelter, 1, 0, 20);
        due("15 one that shelters one's own by as much: none", shelter.wish(0, 1, 0), NONE);
        due("15 as so", shelter.wish(0, 1, 1), 0);
        Sandcastles own = by("20 - 20 * shelter", "0", "10 * (place = 1)");
        put(own, 0, 0, 50);
        put(own, 1, 1, 20);
        put(own, 1, 1, 20);
        due("15 one's own, that shelters both of the other's, is none", own.wish(0, 1, 0), 1);
        due("15 so one of them stands", own.wish(0, 1, 1), -10);
    }

    private static void wishOfNone() {
        Sandcastles x = new Sandcastles();
        for (int realm : new int[] {-1, -2, 2, 3, 256, LEAST, MOST}) {
            due("15 realm " + realm, x.wish(realm, 0, 0), REFUSED);
            due("15 realm " + realm, x.wish(realm, 0, 1), REFUSED);
        }
        for (int what : new int[] {-1, -2, 2, 3, 10, LEAST, MOST}) {
            due("15 what " + what, x.wish(0, 0, what), REFUSED);
        }
        put(x, 0, 0, 20);
        due("15 the other has none", x.wish(0, 0, 0), NONE);
        due("15 as so", x.wish(0, 0, 1), 10);
        due("15 the other's wish", x.wish(1, 0, 0), 0);
        due("15 the other's value then", x.wish(1, 0, 1), 0);
        for (int i = 1; i < 8; i++) {
            put(x, 0, 0, 20);
        }
        x.set(4, 7, 1);
        due("15 the last fort", x.wish(0, 0, 0), 7);
        due("15 the last fort", x.wish(0, 0, 1), 70);
    }

    /** "THE GAME (n WAVES, 1 .. 3)" */
    private static void gamesOfOneToThree() {
        Sandcastles x = by("10", "4", "height");
        put(x, 0, 0, 50);
        for (int n : new int[] {-1, -2, 0, 4, 5, 40, 256, LEAST, MOST}) {
            due("16 game " + n, x.game(n, 0), REFUSED);
            due("16 game " + n, x.game(n, 1), REFUSED);
        }
        for (int what : new int[] {-1, -2, 2, 3, 10, LEAST, MOST}) {
            due("16 what " + what, x.game(1, what), REFUSED);
        }
        for (int n = 1; n <= 3; n++) {
            due("16 waves " + n, x.game(n, 0), 50 - 6 * n);
            due("16 waves " + n, x.game(n, 1), 0);
        }
        x.set(4, 0, 1);
        for (int n = 1; n <= 3; n++) {
            due("16 waves " + n + ", the other's", x.game(n, 0), 6 * n - 50);
            due("16 waves " + n + ", the other's", x.game(n, 1), NONE);
        }
        due("16 in thought", x.told(0, 5), 50);
        due("16 in thought", x.count(2), 0);
        Sandcastles full = by("10", "20", "99 * (height = 99)");
        for (int i = 0; i < 8; i++) {
            put(full, 0, i / 7, 69 + i);
        }
        full.set(5, 7, 88);
        due("16 three of eight, one wave", full.game(1, 0), 0);
        due("16 none of like ones", full.game(1, 1), NONE);
    }

    /** "of like ones none ahead of any, then the first FORT" */
    private static void gameOfLikeOnes() {
        Sandcastles x = by("10", "5", "10");
        put(x, 0, 0, 40);
        put(x, 0, 0, 40);
        due("16 they stand anyway", x.game(3, 1), NONE);
        x.set(5, 0, 9);
        x.set(5, 1, 9);
        due("16 each may be kept: the first", x.game(1, 1), 0);
        due("16 one is kept", x.game(1, 0), 10);
        x.set(5, 0, 5);
        due("16 only the second may be kept", x.game(1, 1), 1);
        x.set(5, 0, 6);
        due("16 the first again, by one", x.game(1, 1), 0);
        x.set(5, 0, 0);
        x.set(5, 1, 5);
        due("16 none may be kept", x.game(1, 1), NONE);
        due("16 none may be kept", x.game(1, 0), 0);
        x.set(5, 1, 6);
        x.set(4, 0, 1);
        due("16 the other's fort is no choice", x.game(1, 1), 1);
        for (int i = 2; i < 8; i++) {
            put(x, 0, 1, 0);
        }
        x.set(4, 7, 0);
        x.set(5, 7, 8);
        x.set(5, 1, 0);
        due("16 the last fort", x.game(1, 1), 7);
        Sandcastles harm = by("0", "5", "99 - height");
        put(harm, 0, 0, 20);
        put(harm, 0, 1, 20);
        due("16 neither may raise the other's", harm.game(1, 0), 0);
        due("16 nor would raise its own", harm.game(1, 1), NONE);
    }

    /** "first REALM 0, then REALM 1" */
    private static void gameByTurns() {
        Sandcastles x = by("0", "10 * (place = 0) + 9 * shelter * (place = 5)", "height");
        put(x, 0, 0, 0);
        put(x, 5, 1, 1);
        // once fort 0 stands it shelters fort 1, which then rises by 9: 10 - 10, or else 0 - 1
        due("16 realm 0 first", x.game(1, 1), 0);
        due("16 then realm 1", x.game(1, 0), 0);
        Sandcastles y = by("0", "10 * (place = 0) + 11 * shelter * (place = 5)", "height");
        put(y, 0, 0, 0);
        put(y, 5, 1, 1);
        due("16 it would be worse, so none", y.game(1, 1), NONE);
        due("16 it would be worse", y.game(1, 0), -1);
        Sandcastles z = by("0", "10 * (place = 0) + 10 * shelter * (place = 5)", "height");
        put(z, 0, 0, 0);
        put(z, 5, 1, 1);
        due("16 it would be the same, so none", z.game(1, 1), NONE);
        due("16 it would be the same", z.game(1, 0), -1);
    }

    /** THE WAVE counts on in the game, may pass 999 there, and is as it was in each line. */
    private static void gameByTheWave() {
        Sandcastles x = by("10 * (wave = 2)", "5 * (wave = 1)", "height");
        put(x, 0, 0, 20);
        put(x, 0, 0, 7);
        put(x, 0, 1, 1);
        due("16 one wave", x.game(1, 0), 20 + 7 - 1);
        due("16 two waves", x.game(2, 0), 20 + 7 + 5 - 1 - 5);
        due("16 two waves", x.game(2, 1), NONE);
        due("16 three waves", x.game(3, 0), 15 + 0);
        x.set(1, 0, 1);
        due("16 from wave 1", x.game(1, 1), 0);
        due("16 from wave 1, two", x.game(2, 0), 15);
        due("16 from wave 1, two", x.game(2, 1), 0);
        Sandcastles past = by("10 * (wave = 1001)", "5 * (wave = 1000)", "height");
        put(past, 0, 0, 20);
        past.set(1, 0, 999);
        due("16 past 999: one", past.game(1, 0), 20);
        due("16 past 999: two", past.game(2, 0), 25);
        due("16 past 999: three", past.game(3, 0), 15);
        due("16 THE WAVE is as it was", past.count(2), 999);
        Sandcastles hole = by("10", "0", "height");
        hole.fort(HOLE, 0, 0);
        hole.set(1, 0, 999);
        hole.set(5, 0, 50);
        due("16 a hole past 999", hole.game(2, 0), 40);
        due("16 a hole past 999", hole.game(3, 0), 30);
    }

    /** "the first number (from 0) that is otherwise; NONE" */
    private static void theFirstThatIsOtherwise() {
        Sandcastles x = by("1", "0", "0");
        put(x, 0, 0, 50);
        for (int sort = 0; sort < 3; sort++) {
            int[] told = new int[40];
            for (int i = 0; i < 40; i++) {
                told[i] = 49 - i;
            }
            row(x, 0, sort, told);
            due("17 forty", x.tells(0, 0, 0), NONE);
            for (int i = 39; i >= 0; i -= 13) {
                x.cell(0, i, 50 - i);
                due("17 otherwise at " + i, x.tells(0, 0, 0), i);
            }
            row(x, 0, sort, 49);
            due("17 one", x.tells(0, 0, 0), NONE);
            row(x, 0, sort, 48);
            due("17 one, less by one", x.tells(0, 0, 0), 0);
            row(x, 0, sort, 50);
            due("17 one, more by one", x.tells(0, 0, 0), 0);
            row(x, 0, sort, 49, -1);
            due("17 -1 is no height", x.tells(0, 0, 0), 1);
        }
        row(x, 1, 0, 256 + 49);
        due("17 a byte's lowest bits", x.tells(1, 0, 0), NONE);
        row(x, 1, 1, 256 + 49);
        due("17 a short has more", x.tells(1, 0, 0), 0);
        row(x, 1, 1, 65536 + 49);
        due("17 a short's lowest bits", x.tells(1, 0, 0), NONE);
        row(x, 1, 2, 65536 + 49);
        due("17 an int has more", x.tells(1, 0, 0), 0);
        for (int what : new int[] {-1, -2, 6, 7, 10, LEAST, MOST}) {
            due("17 what " + what, x.tells(0, 0, what), BAD);
        }
        for (int f : new int[] {-1, 1, 7, 8, LEAST, MOST}) {
            due("17 fort " + f, x.tells(0, f, 0), BAD);
        }
        for (int sheet : new int[] {-1, 4, 5, LEAST, MOST}) {
            due("17 sheet " + sheet, x.tells(sheet, 0, 0), BAD);
        }
    }

    /** "KINDS (bits 0 .. 5), NUMBERS, MOONS (bits 0 .. 9), PLACES (bits 0 .. 15), TEXTS (bits)" */
    private static void lowestAndHighestBits() {
        Sandcastles x = by("3 * moon + number + place", "0", "0");
        put(x, 0, 0, 90);
        row(x, 0, 0, 90);
        due("17 kinds: all at strike 0, number 0", x.tells(0, 0, 1), 63);
        due("17 number 0", x.tells(0, 0, 2), 1);
        due("17 moon 0", x.tells(0, 0, 3), 1);
        due("17 place 0", x.tells(0, 0, 4), 1);
        due("17 text 1", x.tells(0, 0, 5), 2);
        row(x, 0, 0, 63);
        due("17 moon 9", x.tells(0, 0, 3), 512);
        row(x, 0, 0, 81);
        due("17 number 9", x.tells(0, 0, 2), 512);
        due("17 place 9", x.tells(0, 0, 4), 512);
        due("17 text 0", x.tells(0, 0, 5), 1);
        row(x, 0, 0, 75);
        due("17 place 15", x.tells(0, 0, 4), 32768);
        due("17 no number", x.tells(0, 0, 2), 0);
        x.set(2, 0, 9);
        row(x, 0, 0, 90);
        due("17 kind 5: 9 less 9", x.tells(0, 0, 1) & 33, 32);
        for (int t = 2; t < 6; t++) {
            due("6 text", read(x, whole("" + 10 * t, "0", "0")), t);
        }
        row(x, 0, 0, 40);
        due("17 text 5", x.tells(0, 0, 5), 32);
        row(x, 0, 0, 81);
        due("17 texts 0 and 1", x.tells(0, 0, 5), 3);
        due("17 THE RULE is as it was", x.count(5), 1);
        due("17 NUMBER is as it was", x.told(0, 2), 9);
        due("17 PLACE is as it was", x.told(0, 3), 0);
        due("17 MOON is as it was", x.told(0, 0), 0);
        due("17 KIND is as it was", x.told(0, 6), 0);
    }

    /** A SHEET that is missing tells nothing (-11), one of no numbers nothing that is otherwise. */
    private static void nothingTold() {
        Sandcastles x = new Sandcastles();
        x.fort(0, 0, 0);
        int[] all = {NONE, 63, 1023, 1023, 65535, 1};
        for (int sheet = 0; sheet < 4; sheet++) {
            for (int what = 0; what < 6; what++) {
                due("17 missing", x.tells(sheet, 0, what), NOTHING);
            }
            x.sheet(sheet, sheet % 3, 0);
            for (int what = 0; what < 6; what++) {
                due("17 of no numbers", x.tells(sheet, 0, what), all[what]);
            }
            x.sheet(sheet, -1, 0);
            due("17 missing again", x.tells(sheet, 0, 0), NOTHING);
        }
    }

    /** "A SHEET truly becomes HEIGHTS of a FORT behind 1, .., n WAVES (0 .. 40; bytes): n. BAD." */
    private static void films() {
        Sandcastles x = by("1", "0", "0");
        put(x, 0, 0, 41);
        put(x, 0, 0, 99);
        for (int sheet : new int[] {-1, -2, 4, 5, 256, LEAST, MOST}) {
            due("18 sheet " + sheet, x.film(sheet, 0, 1), BAD);
        }
        for (int f : new int[] {-1, -2, 2, 7, 8, 256, LEAST, MOST}) {
            due("18 fort " + f, x.film(0, f, 1), BAD);
        }
        due("18 it is still missing", x.cell(0, 0, 0), NOTHING);
        due("18 none", x.film(0, 0, 0), 0);
        due("18 a row of none", x.cell(0, 0, 0), OUTSIDE);
        due("18 one", x.film(1, 1, 1), 1);
        due("18 one number", x.cell(1, 0, 98) + x.tells(1, 1, 0), 1 + NONE);
        due("18 no second", x.cell(1, 1, 0), OUTSIDE);
        due("18 thirty-nine", x.film(2, 0, 39), 39);
        due("18 no fortieth", x.cell(2, 39, 0), OUTSIDE);
        due("18 forty", x.film(2, 0, 40), 40);
        due("18 the fortieth is 1", x.cell(2, 39, 1) + x.tells(2, 0, 0), 1 + NONE);
        due("18 no forty-first", x.cell(2, 40, 0), OUTSIDE);
        x.sheet(3, 2, 40);
        due("18 an int's row becomes one of bytes", x.film(3, 0, 5), 5);
        due("18 of bytes", x.copy(2, 0, 3, 0, 5), 5);
        due("18 of five", x.cell(3, 5, 0), OUTSIDE);
        due("18 41 forts none", x.film(3, 0, 41), BAD);
        due("18 it is as it was", x.tells(3, 0, 0), NONE);
        due("18 it is as it was", x.cell(3, 4, 36) + x.cell(3, 5, 0), 1 + OUTSIDE);
        due("18 in thought", x.told(0, 5) + x.count(2), 41);
    }

    /** "(z >>> 9) % 10, z being z * 1103515245 + 12345 (an int; SEED at first) anew for each" */
    private static void drawnMoons() {
        int[] seeds = {0, 1, 2, -1, MOST, LEAST, 5, 7, 1103515245};
        int[][] moons = {
            {4, 9, 7, 4, 9, 4}, {7, 6, 8, 1, 3, 8}, {0, 3, 6, 9, 9, 2}, {8, 4, 9, 6, 3, 0}, {4, 8, 3, 2, 7, 6},
            {8, 5, 3, 0, 3, 0}, {2, 3, 5, 1, 8, 2}, {8, 7, 4, 6, 0, 0}, {9, 9, 5, 0, 1, 1},
        };
        for (int wave = 0; wave < 6; wave++) {
            Sandcastles x = by("10 * moon * (wave = " + wave + ")", "0", "0");
            put(x, 0, 0, 1);
            put(x, 0, 0, 1);
            for (int s = 0; s < seeds.length; s++) {
                int loss = 10 * moons[s][wave];
                x.set(5, 0, loss + 1);
                x.set(5, 1, loss);
                due("19 seed " + seeds[s] + ", wave " + wave, x.drawn(seeds[s], wave + 1), 1);
                due("19 not yet", x.drawn(seeds[s], wave), loss > 0 ? 3 : 1);
            }
        }
    }

    private static void drawnWaves() {
        Sandcastles x = by("9 - 9 * (moon = 3)", "0", "0");
        put(x, 0, 0, 9);
        x.set(0, 0, 3);
        due("19 of no wave MOON does not matter", x.drawn(5, 0), 1);
        due("19 it does not matter ahead of one", x.drawn(5, 1), 0);
        due("19 MOON is as it was", x.told(0, 0), 3);
        due("19 by MOON as it is", x.run(40, 0), 1);
        for (int n : new int[] {-1, 41, LEAST, MOST}) {
            due("19 n " + n, x.drawn(0, n), BAD);
        }
        due("19 no fort", new Sandcastles().drawn(0, 40), 0);
    }

    /** "IN n seeds (1 .. 20)", "part 0 above, 1 below the line, in lowest terms" */
    private static void chances() {
        Sandcastles x = by("9 * (4 < moon)", "0", "0");
        put(x, 0, 0, 9);
        for (int n : new int[] {-1, -2, 0, 21, 22, 256, LEAST, MOST}) {
            due("20 n " + n, x.chance(0, n, 1, 0), Sandcastles.NO);
            due("20 n " + n, x.chance(0, n, 1, 1), Sandcastles.NO);
        }
        for (int part : new int[] {-1, -2, 2, 3, 10, LEAST, MOST}) {
            due("20 part " + part, x.chance(0, 1, 1, part), Sandcastles.NO);
        }
        // seeds -1, 0, 1, 2 draw the moons 8, 4, 7, 0
        int[][] due = {{-1, 1, 0, 1}, {0, 1, 1, 1}, {-1, 2, 1, 2}, {0, 2, 1, 2}, {-1, 3, 1, 3}, {0, 3, 2, 3}, {-1, 4, 1, 2}, {1, 1, 0, 1}, {2, 1, 1, 1}};
        for (int[] d : due) {
            due("20 above: seed " + d[0] + ", n " + d[1], x.chance(d[0], d[1], 1, 0), d[2]);
            due("20 below: seed " + d[0] + ", n " + d[1], x.chance(d[0], d[1], 1, 1), d[3]);
        }
        for (int n : new int[] {1, 2, 19, 20}) {
            due("20 all of " + n, x.chance(0, n, 0, 0), 1);
            due("20 all of " + n, x.chance(0, n, 0, 1), 1);
        }
        x.set(5, 0, 0);
        for (int n : new int[] {1, 2, 19, 20}) {
            due("20 none of " + n, x.chance(0, n, 40, 0), 0);
            due("20 none of " + n, x.chance(0, n, 40, 1), 1);
        }
        x.set(5, 0, 20);
        x.set(4, 0, 1);
        due("20 realm 1's are none", x.chance(0, 20, 0, 0), 0);
        put(x, 0, 0, 20);
        due("20 neither's are none", x.chance(0, 20, 0, 0), 0);
        x.set(5, 1, 21);
        due("20 realm 0's by one", x.chance(0, 20, 0, 0), 1);
    }

    /** "SEED and each 1 more (an int)" */
    private static void chanceOfSeedsThatWrap() {
        Sandcastles x = by("9 * (4 < moon)", "0", "0");
        put(x, 0, 0, 9);
        // the most and the least seed draw the moons 4 and 8
        due("20 the most seed", x.chance(MOST, 1, 1, 0), 1);
        due("20 the least seed", x.chance(LEAST, 1, 1, 0), 0);
        due("20 both", x.chance(MOST, 2, 1, 0), 1);
        due("20 both", x.chance(MOST, 2, 1, 1), 2);
        int won = 0;
        for (int i = 0; i < 20; i++) {
            won += x.drawn(MOST - 9 + i, 1);
        }
        due("20 twenty around it", x.chance(MOST - 9, 20, 1, 0) * 20, won * x.chance(MOST - 9, 20, 1, 1));
    }

    /** "STATE: there is none." */
    private static void noImage() {
        Sandcastles x = new Sandcastles();
        due("22 none", x.back(), STATE);
        x.fort(0, 0, 0);
        x.wave();
        due("22 still none", x.back(), STATE);
        due("22 nothing changed", x.told(0, 5), 11);
        due("22 nothing changed", x.count(2), 1);
        due("22 nothing changed", x.count(0), 1);
        due("21 one", x.image(), 1);
        due("22 one", x.back(), 1);
        due("22 one again", x.back(), 1);
    }

    /** "FORTS that came since go" */
    private static void imagesOfNoneAndEight() {
        Sandcastles x = new Sandcastles();
        due("21 of none", x.image(), 0);
        for (int i = 0; i < 8; i++) {
            x.fort(0, 0, 0);
        }
        due("3 full", x.fort(0, 0, 0), FULL);
        due("22 none", x.back(), 0);
        due("23 none", x.count(0), 0);
        due("23 none stands", x.count(1), 0);
        due("9 fort 0 went", x.spade(0), BAD);
        due("8 none stands", x.wave(), 0);
        due("10 no value", x.run(0, 2), 0);
        for (int i = 0; i < 8; i++) {
            due("3 again", x.fort(i % 6, i, i), i);
            x.set(4, i, i % 2);
            x.set(5, i, 90 + i);
        }
        due("21 of eight", x.image(), 8);
        for (int i = 0; i < 8; i++) {
            x.set(2, i, 9);
            x.set(3, i, 15);
            x.set(4, i, 1 - i % 2);
            x.set(5, i, 1);
        }
        due("22 of eight", x.back(), 8);
        for (int i = 0; i < 8; i++) {
            due("22 number", x.told(i, 2), i);
            due("22 place", x.told(i, 3), i);
            due("22 realm", x.told(i, 4), i % 2);
            due("22 height", x.told(i, 5), 90 + i);
            due("22 kind", x.told(i, 6), i % 6);
        }
        due("3 full again", x.fort(0, 0, 0), FULL);
    }

    private static void imageAnew() {
        Sandcastles x = new Sandcastles();
        x.fort(WALL, 1, 1);
        due("21 one", x.image(), 1);
        x.set(0, 0, 9);
        x.set(1, 0, 999);
        x.set(5, 0, 99);
        x.fort(PAIL, 2, 2);
        due("21 two", x.image(), 2);
        x.set(0, 0, 0);
        x.set(1, 0, 0);
        x.set(5, 0, 0);
        x.set(5, 1, 0);
        x.fort(TOWER, 3, 3);
        due("22 by the later one", x.back(), 2);
        due("22 MOON", x.told(0, 0), 9);
        due("22 THE WAVE", x.told(0, 1), 999);
        due("22 height", x.told(0, 5), 99);
        due("22 height", x.told(1, 5), 20);
        due("22 fort 2 went", x.told(2, 5), BAD);
        due("8 THE WAVE is 999 again", x.wave(), STATE);
        due("3 another fort 2", x.fort(HOLE, 4, 4), 2);
        due("3 its kind", x.told(2, 6), HOLE);
        x.spade(0);
        x.set(5, 0, 50);
        x.set(1, 0, 0);
        x.wave();
        due("22 the image stays as it was", x.back(), 2);
        due("22 height", x.told(0, 5), 99);
        due("22 THE WAVE", x.count(2), 999);
        due("12 nothing keeps it", x.keeps(0, 40), NONE);
        due("22 thought leaves the image", x.back(), 2);
    }

    /** "How many: 0 FORTS, 1 that STAND, 2 THE WAVE, 3 TEXTS, 4 bytes of THE TAPE, 5 THE RULE. BAD." */
    private static void counts() {
        Sandcastles x = new Sandcastles();
        for (int what : new int[] {-1, -2, 6, 7, 10, 256, LEAST, MOST}) {
            due("23 count " + what, x.count(what), BAD);
        }
        for (int i = 0; i < 8; i++) {
            x.fort(0, 0, 0);
        }
        for (int t = 1; t < 6; t++) {
            read(x, "strikes 0;raises 0;worth 0;");
        }
        x.force(5);
        x.set(1, 0, 999);
        feed(x, "?".repeat(161));
        int[] full = {8, 8, 999, 6, 160, 5};
        for (int what = 0; what < 6; what++) {
            due("23 count " + what, x.count(what), full[what]);
        }
    }

    /** "An object is used for at most 512 calls": the last of them is as good as the first. */
    private static void the512thCall() {
        Sandcastles x = new Sandcastles();
        x.fort(WALL, 0, 9);
        for (int i = 0; i < 255; i++) {
            // strikes 9 - 9: it loses nothing, and rises by 6 till it has 99
            due("8 wave", x.wave(), 1);
            due("9 spade", x.spade(0), Math.min(99, 26 + 6 * i));
        }
        due("23 the 512th call", x.count(2), 255);
    }
}
