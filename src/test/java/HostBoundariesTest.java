/**
 * The boundaries of the host's calls: sheets, their items, copies, forts by a sheet, forts taken for a kind.
 * What the document says stands ahead of each test; the number ahead of a call is its promise's.
 */
public final class HostBoundariesTest extends Asking {
    private static final int[] NO_SHEETS = {-1, -2, 4, 5, 256, LEAST, MOST};

    public static void main(String[] args) {
        sheetsOfASort();
        sheetsOfASize();
        sheetsThatAreMissing();
        sheetsAnew();
        sheetsApart();
        itemsOfASheet();
        bytes();
        shorts();
        ints();
        cellsOfNone();
        copiesWithin();
        copiesOfNothing();
        copiesOutside();
        copiesThatWrap();
        copiesOverThemselves();
        copiesOfEachSort();
        copiesRefused();
        fortsByThree();
        fortsOfNone();
        fortsAtTheEnd();
        fortsOutside();
        fortsLeftOut();
        fortsWithoutRoom();
        fortsOfEachSort();
        fortsRefused();
        kindsUnderKinds();
        takenRefused();
        end("HostBoundariesTest");
    }

    /** An object with fort 0 of HEIGHT 50, which no wave lowers: so tells() finds the first number that is not 50. */
    private static Sandcastles still() {
        Sandcastles x = by("0", "0", "0");
        put(x, 0, 0, 50);
        return x;
    }

    /** "A SHEET becomes a row of n of a sort", "of sort 0 bytes, 1 shorts, 2 ints", "(sort -1 ..)" */
    private static void sheetsOfASort() {
        Sandcastles x = new Sandcastles();
        for (int sort : new int[] {-2, -3, 3, 4, 256, LEAST, MOST}) {
            due("24 sort " + sort, x.sheet(0, sort, 1), BAD);
            due("24 still missing", x.cell(0, 0, 0), NOTHING);
        }
        for (int sort = 0; sort < 3; sort++) {
            due("24 sort " + sort, x.sheet(0, sort, 1), 1);
            for (int other = 0; other < 3; other++) {
                due("27 taken for " + other, x.forts(0, other, 0, 0), other == sort ? 0 : UNLIKE);
            }
        }
        for (int sheet : NO_SHEETS) {
            due("24 sheet " + sheet, x.sheet(sheet, 0, 1), BAD);
            due("24 sheet " + sheet, x.sheet(sheet, -1, 1), BAD);
        }
    }

    /** "n above 40; -14" */
    private static void sheetsOfASize() {
        Sandcastles x = still();
        for (int sort = 0; sort < 3; sort++) {
            for (int n : new int[] {41, 42, 256, 65536, MOST}) {
                due("24 n " + n, x.sheet(0, sort, n), BAD);
            }
            for (int n : new int[] {-1, -2, -256, LEAST}) {
                due("24 n " + n, x.sheet(0, sort, n), BELOW);
            }
        }
        due("24 still missing", x.cell(0, 0, 0), NOTHING);
        for (int sort = 0; sort < 3; sort++) {
            for (int n : new int[] {0, 1, 39, 40}) {
                due("24 n " + n, x.sheet(0, sort, n), 1);
                due("24 its last item", x.cell(0, n - 1, 0), n > 0 ? 1 : OUTSIDE);
                due("24 none behind it", x.cell(0, n, 0), OUTSIDE);
                due("24 41 is refused", x.sheet(0, sort, 41), BAD);
                due("24 -1 is refused", x.sheet(0, sort, -1), BELOW);
                due("24 so it stays", x.copy(0, 0, 0, 0, n), n);
                due("24 so it stays", x.copy(0, 0, 0, 0, n + 1), OUTSIDE);
            }
        }
        due("24 BAD ahead of -14", x.sheet(4, 0, -1), BAD);
        due("24 BAD ahead of -14", x.sheet(0, 3, -1), BAD);
        due("24 BAD ahead of -14", x.sheet(0, -2, -1), BAD);
    }

    /** "missing (sort -1: n does not matter)" */
    private static void sheetsThatAreMissing() {
        Sandcastles x = new Sandcastles();
        for (int n : new int[] {0, 1, 40, 41, -1, LEAST, MOST}) {
            due("24 missing already", x.sheet(0, -1, n), 1);
            due("24 missing", x.cell(0, 0, 0), NOTHING);
            x.sheet(0, 0, 40);
            due("24 there", x.cell(0, 0, 0), 1);
            due("24 missing, n " + n, x.sheet(0, -1, n), 1);
            due("24 missing", x.cell(0, 0, 0), NOTHING);
            due("24 of no sort", x.forts(0, 0, 0, 0), NOTHING);
        }
    }

    /** "all 0" */
    private static void sheetsAnew() {
        Sandcastles x = still();
        x.set(5, 0, 0);
        for (int n : new int[] {40, 39, 1, 40}) {
            due("24 anew", x.sheet(0, 1, n), 1);
            due("24 all 0", x.tells(0, 0, 0), NONE);
            for (int i = 0; i < n; i++) {
                x.cell(0, i, 7);
            }
            due("24 no more", x.tells(0, 0, 0), 0);
        }
        x.sheet(0, -1, 0);
        x.sheet(0, 2, 40);
        due("24 all 0, once it was missing", x.tells(0, 0, 0), NONE);
        x.set(5, 0, 9);
        x.film(0, 0, 40);
        x.sheet(0, 0, 40);
        due("24 not as filmed", x.tells(0, 0, 0), 0);
        x.set(5, 0, 0);
        due("24 all 0, once it was filmed", x.tells(0, 0, 0), NONE);
    }

    private static void sheetsApart() {
        Sandcastles x = still();
        for (int sheet = 0; sheet < 4; sheet++) {
            x.sheet(sheet, sheet % 3, sheet + 1);
            for (int other = sheet + 1; other < 4; other++) {
                due("24 the others are missing", x.cell(other, 0, 0), NOTHING);
            }
        }
        for (int sheet = 0; sheet < 4; sheet++) {
            due("25 last", x.cell(sheet, sheet, 50), 1);
            due("25 none behind it", x.cell(sheet, sheet + 1, 50), OUTSIDE);
        }
        due("25 each has its own", x.tells(0, 0, 0), NONE);
        due("25 each has its own", x.tells(1, 0, 0), 0);
        x.sheet(1, -1, 0);
        due("24 only that one", x.cell(0, 0, 50), 1);
        due("24 only that one", x.cell(2, 0, 50), 1);
    }

    /** "Item i of a SHEET becomes v: 1. BAD: no such SHEET; -11; -12." */
    private static void itemsOfASheet() {
        Sandcastles x = still();
        for (int size : new int[] {0, 1, 2, 40}) {
            x.sheet(0, 2, size);
            for (int i : new int[] {-1, -2, -256, LEAST, size, size + 1, size + 256, 65536, MOST}) {
                due("25 item " + i + " of " + size, x.cell(0, i, 50), OUTSIDE);
            }
            x.set(5, 0, 0);
            due("25 nothing came", x.tells(0, 0, 0), NONE);
            x.set(5, 0, 50);
            for (int i = 0; i < size; i++) {
                due("25 otherwise from " + i, x.tells(0, 0, 0), i);
                due("25 item " + i, x.cell(0, i, 50), 1);
            }
            due("25 all are so", x.tells(0, 0, 0), NONE);
        }
    }

    /** "of bytes .. its lowest 8": from -128 to 127, which shows as FORTS, NONE, HEIGHTS */
    private static void bytes() {
        Sandcastles x = still();
        x.sheet(0, 0, 1);
        int[] fifty = {50, 256 + 50, 512 + 50, 65536 + 50, 50 - 256, 50 - 512, LEAST + 50, MOST - 205};
        for (int v : fifty) {
            due("25 a byte", x.cell(0, 0, v), 1);
            due("25 " + v + " is 50", x.tells(0, 0, 0), NONE);
            due("25 no fort", x.plan(0, 0), REFUSED);
        }
        for (int v : new int[] {-1, 255, 511, 65535, MOST}) {
            x.cell(0, 0, v);
            due("25 " + v + " is NONE", x.plan(0, 0), 1);
        }
        for (int v : new int[] {0, 256, -256, 65536, LEAST}) {
            x.cell(0, 0, v);
            due("25 " + v + " is fort 0", x.plan(0, 0), 1);
        }
        for (int v : new int[] {1, -2, 127, 128, 129, 254, 257, -127, -128, -129, -255, LEAST + 1, MOST - 1}) {
            x.cell(0, 0, v);
            due("25 " + v + " is neither", x.plan(0, 0), REFUSED);
            due("25 " + v + " is not 50", x.tells(0, 0, 0), 0);
        }
    }

    /** "shorts its lowest .. 16 bits" */
    private static void shorts() {
        Sandcastles x = still();
        x.sheet(0, 1, 1);
        for (int v : new int[] {50, 65536 + 50, 131072 + 50, 50 - 65536, LEAST + 50}) {
            due("25 a short", x.cell(0, 0, v), 1);
            due("25 " + v + " is 50", x.tells(0, 0, 0), NONE);
        }
        for (int v : new int[] {-1, 65535, 131071, MOST}) {
            x.cell(0, 0, v);
            due("25 " + v + " is NONE", x.plan(0, 0), 1);
        }
        for (int v : new int[] {0, 65536, -65536, LEAST}) {
            x.cell(0, 0, v);
            due("25 " + v + " is fort 0", x.plan(0, 0), 1);
        }
        for (int v : new int[] {255, 256, 256 + 50, 50 - 256, 32767, 32768, -32768, -32769, 65534}) {
            x.cell(0, 0, v);
            due("25 " + v + " is neither", x.plan(0, 0), REFUSED);
            due("25 " + v + " is not 50", x.tells(0, 0, 0), 0);
        }
    }

    private static void ints() {
        Sandcastles x = still();
        x.sheet(0, 2, 1);
        due("25 an int", x.cell(0, 0, 50), 1);
        due("25 50", x.tells(0, 0, 0), NONE);
        x.cell(0, 0, -1);
        due("25 NONE", x.plan(0, 0), 1);
        for (int v : new int[] {255, 256, 65535, 65536, 65536 + 50, 256 + 50, LEAST, LEAST + 50, MOST}) {
            due("25 an int", x.cell(0, 0, v), 1);
            due("25 " + v + " is no fort", x.plan(0, 0), REFUSED);
            due("25 " + v + " is not 50", x.tells(0, 0, 0), 0);
        }
    }

    private static void cellsOfNone() {
        Sandcastles x = new Sandcastles();
        for (int sheet : NO_SHEETS) {
            due("25 sheet " + sheet, x.cell(sheet, 0, 0), BAD);
            due("25 BAD ahead of all", x.cell(sheet, -1, 0), BAD);
        }
        for (int sheet = 0; sheet < 4; sheet++) {
            due("25 missing", x.cell(sheet, 0, 0), NOTHING);
            due("25 -11 ahead of -12", x.cell(sheet, -1, 0), NOTHING);
            due("25 -11 ahead of -12", x.cell(sheet, 40, 0), NOTHING);
            x.sheet(sheet, 0, 0);
            due("25 of none", x.cell(sheet, 0, 0), OUTSIDE);
        }
    }

    /** Two sheets of bytes: sheet 0 of 1, 2, .., 6 and sheet 1 of four 0. */
    private static Sandcastles sixAndFour() {
        Sandcastles x = still();
        row(x, 0, 0, 1, 2, 3, 4, 5, 6);
        x.sheet(1, 0, 4);
        return x;
    }

    /** The row of a sheet of bytes is so: each item, alone on sheet 2, is told as the HEIGHT of a fort that loses none. */
    private static void isRow(Sandcastles x, int sheet, int... numbers) {
        due("the row in all", x.copy(sheet, 0, sheet, 0, numbers.length), numbers.length);
        due("no more than that", x.copy(sheet, numbers.length, sheet, 0, 1), OUTSIDE);
        x.sheet(2, 0, 1);
        for (int i = 0; i < numbers.length; i++) {
            x.copy(sheet, i, 2, 0, 1);
            x.set(5, 0, numbers[i]);
            due("item " + i, x.tells(2, 0, 0), NONE);
        }
    }

    /** "n numbers of a SHEET, from item i on, come to another one's item j on: n" */
    private static void copiesWithin() {
        Sandcastles x = sixAndFour();
        due("26 the first four", x.copy(0, 0, 1, 0, 4), 4);
        isRow(x, 1, 1, 2, 3, 4);
        due("26 the last four", x.copy(0, 2, 1, 0, 4), 4);
        isRow(x, 1, 3, 4, 5, 6);
        due("26 the first to the last", x.copy(0, 0, 1, 3, 1), 1);
        isRow(x, 1, 3, 4, 5, 1);
        due("26 the last to the first", x.copy(0, 5, 1, 0, 1), 1);
        isRow(x, 1, 6, 4, 5, 1);
        due("26 two to the last two", x.copy(0, 4, 1, 2, 2), 2);
        isRow(x, 1, 6, 4, 5, 6);
        isRow(x, 0, 1, 2, 3, 4, 5, 6);
        due("26 all six onto themselves", x.copy(0, 0, 0, 0, 6), 6);
        isRow(x, 0, 1, 2, 3, 4, 5, 6);
    }

    /** n 0: nothing comes, but the places are looked at. */
    private static void copiesOfNothing() {
        Sandcastles x = sixAndFour();
        due("26 0 at the start", x.copy(0, 0, 1, 0, 0), 0);
        due("26 0 at both ends", x.copy(0, 6, 1, 4, 0), 0);
        due("26 0 behind the end", x.copy(0, 7, 1, 0, 0), OUTSIDE);
        due("26 0 behind the other's end", x.copy(0, 0, 1, 5, 0), OUTSIDE);
        due("26 0 ahead of the start", x.copy(0, -1, 1, 0, 0), OUTSIDE);
        due("26 0 ahead of the other's start", x.copy(0, 0, 1, -1, 0), OUTSIDE);
        isRow(x, 1, 0, 0, 0, 0);
        x.sheet(1, 0, 0);
        due("26 0 of none", x.copy(1, 0, 1, 0, 0), 0);
        due("26 0 to none", x.copy(0, 3, 1, 0, 0), 0);
        due("26 1 of none", x.copy(1, 0, 0, 0, 1), OUTSIDE);
        due("26 1 to none", x.copy(0, 0, 1, 0, 1), OUTSIDE);
    }

    /** "-12 (also with n below 0)" */
    private static void copiesOutside() {
        Sandcastles x = sixAndFour();
        int[][] outside = {
            {0, 0, 5}, {0, 1, 4}, {1, 1, 4}, {3, 0, 4}, {2, 0, 5}, {5, 0, 2}, {6, 0, 1}, {7, 0, 1}, {0, 3, 2}, {0, 4, 1}, {0, 5, 1},
            {-1, 0, 1}, {0, -1, 1}, {-1, -1, 1}, {-1, 0, 2}, {0, -1, 2}, {0, 0, 7}, {0, 0, 40}, {0, 0, 41},
            {0, 0, -1}, {1, 1, -1}, {6, 4, -1}, {3, 3, -2}, {7, 0, -1}, {0, 5, -1}, {0, 0, -256},
        };
        for (int[] o : outside) {
            due("26 from " + o[0] + " to " + o[1] + ", " + o[2], x.copy(0, o[0], 1, o[1], o[2]), OUTSIDE);
        }
        isRow(x, 0, 1, 2, 3, 4, 5, 6);
        isRow(x, 1, 0, 0, 0, 0);
    }

    private static void copiesThatWrap() {
        Sandcastles x = sixAndFour();
        int[] far = {LEAST, LEAST + 1, LEAST + 5, -65536, -2, 65536, MOST - 5, MOST - 1, MOST};
        for (int a : far) {
            due("26 i " + a, x.copy(0, a, 1, 0, 1), OUTSIDE);
            due("26 j " + a, x.copy(0, 0, 1, a, 1), OUTSIDE);
            due("26 n " + a, x.copy(0, 0, 1, 0, a), OUTSIDE);
            due("26 n " + a, x.copy(0, 5, 1, 3, a), OUTSIDE);
            for (int b : far) {
                due("26 i, n " + a + ", " + b, x.copy(0, a, 1, 0, b), OUTSIDE);
                due("26 j, n " + a + ", " + b, x.copy(0, 0, 1, a, b), OUTSIDE);
            }
        }
        isRow(x, 0, 1, 2, 3, 4, 5, 6);
        isRow(x, 1, 0, 0, 0, 0);
    }

    /** "(as they were)" */
    private static void copiesOverThemselves() {
        Sandcastles up = sixAndFour();
        due("26 up by one", up.copy(0, 0, 0, 1, 5), 5);
        isRow(up, 0, 1, 1, 2, 3, 4, 5);
        Sandcastles down = sixAndFour();
        due("26 down by one", down.copy(0, 1, 0, 0, 5), 5);
        isRow(down, 0, 2, 3, 4, 5, 6, 6);
        Sandcastles far = sixAndFour();
        due("26 up by three", far.copy(0, 0, 0, 3, 3), 3);
        isRow(far, 0, 1, 2, 3, 1, 2, 3);
        due("26 up by four: one too many", far.copy(0, 0, 0, 4, 3), OUTSIDE);
        due("26 down by four: one too many", far.copy(0, 4, 0, 0, 3), OUTSIDE);
        isRow(far, 0, 1, 2, 3, 1, 2, 3);
    }

    /** "-13: they are of unlike sorts" */
    private static void copiesOfEachSort() {
        for (int sort = 0; sort < 3; sort++) {
            for (int other = 0; other < 3; other++) {
                Sandcastles x = still();
                row(x, 0, sort, 50, 50);
                x.sheet(1, other, 2);
                due("26 of sort " + sort + " to " + other, x.copy(0, 0, 1, 0, 2), sort == other ? 2 : UNLIKE);
                due("26 came", x.tells(1, 0, 0), sort == other ? NONE : 0);
                due("26 none of none", x.copy(0, 0, 1, 0, 0), sort == other ? 0 : UNLIKE);
                due("26 outside", x.copy(0, 0, 1, 0, 3), sort == other ? OUTSIDE : UNLIKE);
            }
        }
        Sandcastles wide = still();
        row(wide, 0, 2, 65536 + 50);
        wide.sheet(1, 2, 1);
        wide.copy(0, 0, 1, 0, 1);
        due("26 an int comes whole", wide.tells(1, 0, 0), 0);
    }

    /** "BAD: no such SHEET; -11; -13; -12": the first of them */
    private static void copiesRefused() {
        Sandcastles x = still();
        row(x, 0, 0, 1, 2);
        row(x, 1, 1, 1, 2);
        for (int sheet : NO_SHEETS) {
            due("26 sheet " + sheet, x.copy(sheet, 0, 0, 0, 1), BAD);
            due("26 other " + sheet, x.copy(0, 0, sheet, 0, 1), BAD);
            due("26 BAD ahead of -11", x.copy(sheet, 0, 2, 0, 1), BAD);
            due("26 BAD ahead of -11", x.copy(2, 0, sheet, 0, 1), BAD);
            due("26 BAD ahead of -12", x.copy(0, -1, sheet, -1, -1), BAD);
        }
        due("26 the first is missing", x.copy(2, 0, 0, 0, 1), NOTHING);
        due("26 the other is missing", x.copy(0, 0, 2, 0, 1), NOTHING);
        due("26 both are missing", x.copy(2, 0, 3, 0, 0), NOTHING);
        due("26 missing, onto itself", x.copy(2, 0, 2, 0, 0), NOTHING);
        due("26 -11 ahead of -12", x.copy(2, -1, 0, 9, -1), NOTHING);
        due("26 -11 ahead of -12", x.copy(1, -1, 3, 9, -1), NOTHING);
        due("26 -13 ahead of -12", x.copy(0, -1, 1, 0, 1), UNLIKE);
        due("26 -13 ahead of -12", x.copy(1, 0, 0, 0, -1), UNLIKE);
        due("26 -12", x.copy(0, 0, 0, 0, 3), OUTSIDE);
    }

    /** "from one on, three by three (as of fort()), n of them (0 .. 8): how many came" */
    private static void fortsByThree() {
        Sandcastles x = new Sandcastles();
        row(x, 0, 0, 9, 0, 1, 2, 3, 4, 5, 5, 9, 15);
        due("27 one", x.forts(0, 0, 1, 1), 1);
        due("27 kind", x.told(0, 6), 0);
        due("27 number", x.told(0, 2), 1);
        due("27 place", x.told(0, 3), 2);
        due("27 realm", x.told(0, 4), 0);
        due("27 height", x.told(0, 5), 20);
        due("27 three", x.forts(0, 0, 1, 3), 3);
        due("27 kind", x.told(2, 6), 3);
        due("27 number", x.told(2, 2), 4);
        due("27 place", x.told(2, 3), 5);
        due("27 kind", x.told(3, 6), 5);
        due("27 number", x.told(3, 2), 9);
        due("27 place", x.told(3, 3), 15);
        due("27 four", x.count(0), 4);
        Sandcastles y = new Sandcastles();
        y.sheet(0, 2, 24);
        due("27 eight", y.forts(0, 2, 0, 8), 8);
        due("27 all stand", y.count(1), 8);
        for (int n : new int[] {-1, -2, 9, 10, 256, LEAST, MOST}) {
            due("27 n " + n, x.forts(0, 0, 1, n), BAD);
            due("27 n " + n, x.forts(0, 0, -1, n), BAD);
        }
        due("27 four still", x.count(0), 4);
    }

    private static void fortsOfNone() {
        Sandcastles x = new Sandcastles();
        x.sheet(0, 0, 3);
        for (int from : new int[] {0, 1, 3}) {
            due("27 none from " + from, x.forts(0, 0, from, 0), 0);
        }
        x.sheet(1, 0, 0);
        due("27 none of none", x.forts(1, 0, 0, 0), 0);
        due("27 one of none", x.forts(1, 0, 0, 1), OUTSIDE);
        due("27 none came", x.count(0), 0);
    }

    /** "-12: what stood ahead came." */
    private static void fortsAtTheEnd() {
        for (int size = 0; size <= 9; size++) {
            for (int n = 0; n <= 3; n++) {
                Sandcastles x = new Sandcastles();
                x.sheet(0, 1, size);
                due("27 " + n + " of " + size, x.forts(0, 1, 0, n), 3 * n <= size ? n : OUTSIDE);
                due("27 came", x.count(0), Math.min(n, size / 3));
            }
        }
        Sandcastles x = new Sandcastles();
        x.sheet(0, 1, 40);
        due("27 the last three", x.forts(0, 1, 37, 1), 1);
        due("27 two more of them", x.forts(0, 1, 37, 2), OUTSIDE);
        due("27 the first of the two came", x.count(0), 2);
        due("27 one item too far", x.forts(0, 1, 38, 1), OUTSIDE);
        due("27 the last item", x.forts(0, 1, 39, 1), OUTSIDE);
        due("27 behind the last", x.forts(0, 1, 40, 1), OUTSIDE);
        due("27 none came", x.count(0), 2);
    }

    private static void fortsOutside() {
        Sandcastles x = new Sandcastles();
        x.sheet(0, 1, 6);
        for (int from : new int[] {-1, -2, -3, -4, -6, 4, 5, 6, 7, 256, 65536, LEAST, LEAST + 1, LEAST + 2, MOST - 2, MOST - 1, MOST}) {
            due("27 from " + from, x.forts(0, 1, from, 1), OUTSIDE);
            due("27 from " + from + ", eight", x.forts(0, 1, from, 8), OUTSIDE);
        }
        due("27 none came", x.count(0), 0);
        due("27 from 3", x.forts(0, 1, 3, 1), 1);
    }

    /** "(others are left out)" */
    private static void fortsLeftOut() {
        Sandcastles x = new Sandcastles();
        row(x, 0, 2, 6, 0, 0, 5, 9, 15, 0, 10, 0, 0, 0, 16, -1, 0, 0, 0, -1, 0, 0, 0, -1, 4, 8, 14);
        due("27 two of eight", x.forts(0, 2, 0, 8), 2);
        due("27 two", x.count(0), 2);
        due("27 the first", x.told(0, 6), 5);
        due("27 the last", x.told(1, 6), 4);
        due("27 one left out, and then outside", x.forts(0, 2, 18, 3), OUTSIDE);
        due("27 one came", x.count(0), 3);
        due("27 it", x.told(2, 2), 8);
        row(x, 1, 0, 256, 256, 256, 255, 0, 0);
        due("27 of bytes the lowest bits", x.forts(1, 0, 0, 2), 1);
        row(x, 1, 2, 256, 0, 0, 0, LEAST, 0, 0, 0, MOST);
        due("27 of ints none", x.forts(1, 2, 0, 3), 0);
        due("27 four", x.count(0), 4);
    }

    private static void fortsWithoutRoom() {
        Sandcastles x = new Sandcastles();
        x.sheet(0, 1, 24);
        for (int i = 0; i < 6; i++) {
            x.fort(0, 0, 0);
        }
        due("27 two of three have room", x.forts(0, 1, 0, 3), 2);
        due("27 eight", x.count(0), 8);
        due("27 none has room", x.forts(0, 1, 0, 8), 0);
        due("27 none has room, and then outside", x.forts(0, 1, 3, 8), OUTSIDE);
        due("27 eight", x.count(0), 8);
    }

    /** "a SHEET that is taken for one of a sort" */
    private static void fortsOfEachSort() {
        for (int sort = 0; sort < 3; sort++) {
            Sandcastles x = new Sandcastles();
            row(x, 0, sort, 1, 2, 3);
            for (int other = 0; other < 3; other++) {
                due("27 sort " + sort + " for " + other, x.forts(0, other, 0, 1), sort == other ? 1 : UNLIKE);
            }
            due("27 one", x.count(0), 1);
            for (int none : new int[] {-1, -2, 3, 4, 256, LEAST, MOST}) {
                due("27 sort " + none, x.forts(0, none, 0, 1), BAD);
            }
        }
    }

    /** "BAD: no such SHEET, sort, n; -13; -11; -12": the first of them */
    private static void fortsRefused() {
        Sandcastles x = new Sandcastles();
        x.sheet(0, 0, 3);
        for (int sheet : NO_SHEETS) {
            due("27 sheet " + sheet, x.forts(sheet, 0, 0, 1), BAD);
        }
        due("27 BAD ahead of -13", x.forts(0, 1, 0, 9), BAD);
        due("27 BAD ahead of -13", x.forts(0, 1, 0, -1), BAD);
        due("27 BAD ahead of -11", x.forts(1, 3, 0, 1), BAD);
        due("27 BAD ahead of -11", x.forts(1, 0, 0, 9), BAD);
        due("27 BAD ahead of -12", x.forts(0, 3, 1, 1), BAD);
        due("27 -13 ahead of -12", x.forts(0, 1, 1, 1), UNLIKE);
        due("27 -13 also for none", x.forts(0, 2, 0, 0), UNLIKE);
        for (int sort = 0; sort < 3; sort++) {
            due("27 missing", x.forts(1, sort, 0, 1), NOTHING);
            due("27 missing, also for none", x.forts(1, sort, 0, 0), NOTHING);
            due("27 -11 ahead of -12", x.forts(1, sort, -1, 8), NOTHING);
        }
        due("27 none came", x.count(0), 0);
    }

    /** "A FORT taken for one of KIND k (0 .. 5), or one under that one (also by others between)" */
    private static void kindsUnderKinds() {
        // the bits of those KINDS that a KIND is, or is under
        int[] above = {1, 1 + 2, 1 + 4, 1 + 2 + 8, 1 + 4 + 16, 1 + 32};
        Sandcastles x = new Sandcastles();
        for (int kind = 0; kind < 6; kind++) {
            x.fort(kind, 9 - kind, 0);
            for (int k = 0; k < 6; k++) {
                due("28 " + kind + " for " + k, x.taken(kind, k), (above[kind] >> k & 1) == 1 ? 9 - kind : UNLIKE);
            }
        }
        x.set(2, 3, 0);
        due("28 NUMBER 0", x.taken(3, 0), 0);
        x.set(5, 3, 0);
        due("28 one that doesn't stand", x.taken(3, 1), 0);
    }

    /** "BAD: k; -11: no such FORT; -13." */
    private static void takenRefused() {
        Sandcastles x = new Sandcastles();
        due("28 no fort", x.taken(0, 0), NOTHING);
        x.fort(0, 3, 0);
        for (int k : new int[] {-1, -2, 6, 7, 256, LEAST, MOST}) {
            due("28 k " + k, x.taken(0, k), BAD);
            due("28 BAD ahead of -11", x.taken(1, k), BAD);
            due("28 BAD ahead of -11", x.taken(-1, k), BAD);
        }
        for (int f : new int[] {-1, -2, 1, 7, 8, 256, LEAST, MOST}) {
            due("28 fort " + f, x.taken(f, 0), NOTHING);
            due("28 -11 ahead of -13", x.taken(f, 5), NOTHING);
        }
        due("28 fort 0", x.taken(0, 0), 3);
        for (int k = 1; k < 6; k++) {
            due("28 a FORT for " + k, x.taken(0, k), UNLIKE);
        }
    }
}
