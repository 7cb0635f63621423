/** Promises 27 to 30: sheets, their cells, copies, and nights by a sheet. */
public final class SheetsTest {
    private static final int MIN = Integer.MIN_VALUE, MAX = Integer.MAX_VALUE;
    private static final int[] NO_SHEETS = {-1, 4, MIN, MAX};
    private static final Due DUE = new Due();

    private static CushionHall oneHall() {
        CushionHall x = new CushionHall();
        x.hall(100, 4, 4);
        return x;
    }

    private static void missing() {
        CushionHall x = oneHall();
        DUE.by("SHEETS 0 .. 3 are rows of numbers, or missing (as all are at first): of sort 0 bytes, 1 shorts, 2 ints.");
        for (int s = 0; s < 4; s++) {
            DUE.is("cell of sheet " + s, x.cell(s, 0, 0), -11);
            for (int sort = 0; sort < 3; sort++) DUE.is("nights of sheet " + s, x.nights(s, sort, 0, 1), -11);
            for (int o = 0; o < 4; o++) DUE.is("copy of " + s + " to " + o, x.copy(s, 0, o, 0, 0), -11);
        }
        for (int bad : NO_SHEETS) DUE.is("sheet(" + bad + ", 0, 1)", x.sheet(bad, 0, 1), -2);
        for (int bad : NO_SHEETS) DUE.is("sheet(" + bad + ", -1, 1)", x.sheet(bad, -1, 1), -2);
    }

    private static void sheet() {
        CushionHall x = new CushionHall();
        DUE.by("BAD: no such SHEET, sort; n above 40; -14.");
        for (int bad : new int[] {-2, 3, MIN, MAX}) DUE.is("sort " + bad, x.sheet(0, bad, 1), -2);
        for (int sort = 0; sort < 3; sort++) {
            for (int bad : new int[] {41, MAX}) DUE.is("n " + bad, x.sheet(0, sort, bad), -2);
            for (int bad : new int[] {-1, MIN}) DUE.is("n " + bad, x.sheet(0, sort, bad), -14);
            DUE.is("still missing", x.cell(0, 0, 0), -11);
        }
        DUE.is("no such sheet, n below 0", x.sheet(4, 0, -1), -2);
        DUE.is("no such sort, n below 0", x.sheet(0, 3, -1), -2);
        DUE.is("no such sort, n below 0", x.sheet(0, -2, -1), -2);
        DUE.by("A SHEET becomes a row of n of a sort, all 0, or missing (sort -1: n does not matter): 1.");
        for (int s = 0; s < 4; s++) {
            DUE.is("longest", x.sheet(s, s % 3, 40), 1);
            DUE.is("its last", x.cell(s, 39, 1), 1);
            DUE.is("behind its last", x.cell(s, 40, 1), -12);
            DUE.is("shortest", x.sheet(s, s % 3, 0), 1);
            DUE.is("its first", x.cell(s, 0, 1), -12);
            for (int n : new int[] {0, -5, 41, MIN, MAX}) {
                x.sheet(s, 0, 3);
                DUE.is("missing", x.sheet(s, -1, n), 1);
                DUE.is("missing", x.cell(s, 0, 1), -11);
            }
        }
        DUE.is("of one sort", x.sheet(0, 0, 40), 1);
        DUE.is("another sort", x.sheet(0, 2, 3), 1);
        DUE.is("the place behind it", x.cell(0, 3, 1), -12);
        DUE.is("the sort that it was", x.nights(0, 0, 0, 0), -13);
        DUE.is("its sort", x.nights(0, 2, 0, 0), 0);
    }

    private static void cell() {
        CushionHall x = new CushionHall();
        DUE.by("BAD: no such SHEET; -11; -12.");
        x.sheet(1, 2, 3);
        for (int bad : NO_SHEETS) DUE.is("cell(" + bad + ", 0, 1)", x.cell(bad, 0, 1), -2);
        for (int bad : NO_SHEETS) DUE.is("cell(" + bad + ", -1, 1)", x.cell(bad, -1, 1), -2);
        DUE.is("missing, and a place outside", x.cell(0, -1, 1), -11);
        for (int bad : new int[] {-1, 3, MIN, MAX}) DUE.is("cell(1, " + bad + ", 1)", x.cell(1, bad, 1), -12);
        for (int i = 0; i < 3; i++) DUE.is("cell(1, " + i + ", 1)", x.cell(1, i, MIN), 1);
    }

    /** A night whose MANY comes through a cell of a sort: the MANY that is told, or -1 if no night came. */
    private static long through(int sort, int v) {
        CushionHall x = oneHall();
        x.sheet(0, sort, 5);
        x.cell(0, 2, v);
        return x.nights(0, sort, 0, 1) == 1 ? x.told(0, 3) : -1;
    }

    private static void eachCell() {
        CushionHall x = oneHall();
        DUE.by("NIGHTS by a SHEET that is taken for one of a sort: from one on, five by five (as of night()), n of them (0 .. 8): how many came (others are left out)");
        for (int sort = 0; sort < 3; sort++) {
            x.sheet(sort, sort, 5);
            for (int i = 0; i < 5; i++) x.cell(sort, i, i + 1);
            DUE.is("nights by sort " + sort, x.nights(sort, sort, 0, 1), 1);
            long[] want = {1, 0, 2, 3, 4, 5};
            for (int k = 0; k < 6; k++) DUE.is("told(" + sort + ", " + k + ")", x.told(sort, k), want[k]);
        }
    }

    private static void lowestBits() {
        DUE.by("Item i of a SHEET becomes v (of bytes, shorts its lowest 8, 16 bits): 1.");
        DUE.is("byte 127", through(0, 127), 127);
        DUE.is("byte 128 is below 0", through(0, 128), -1);
        DUE.is("byte 256 + 7", through(0, 263), 7);
        DUE.is("byte -249", through(0, -249), 7);
        DUE.is("short 999", through(1, 999), 999);
        DUE.is("short 65536 + 7", through(1, 65543), 7);
        DUE.is("short 32768 is below 0", through(1, 32768), -1);
        DUE.is("short 263", through(1, 263), 263);
        DUE.is("byte 255 is below 0", through(0, 255), -1);
        DUE.is("byte 256", through(0, 256), 0);
        DUE.is("byte, the greatest number", through(0, MAX), -1);
        DUE.is("byte, the least number", through(0, MIN), 0);
        DUE.is("byte, the least number and 9", through(0, MIN + 9), 9);
        DUE.is("short 32767", through(1, 32767), -1);
        DUE.is("short 65536", through(1, 65536), 0);
        DUE.is("short -65536 + 500", through(1, 500 - 65536), 500);
        DUE.is("short, the greatest number", through(1, MAX), -1);
        DUE.is("short, the least number and 300", through(1, MIN + 300), 300);
        DUE.is("int, the greatest number", through(2, MAX), -1);
        DUE.is("int, the least number", through(2, MIN), -1);
        DUE.is("int 999", through(2, 999), 999);
        DUE.is("int 65536 + 7", through(2, 65543), -1);
    }

    private static void copy() {
        CushionHall x = oneHall();
        x.sheet(0, 2, 10);
        x.sheet(1, 2, 5);
        x.sheet(2, 1, 5);
        DUE.by("BAD: no such SHEET; -11; -13: they are of unlike sorts; -12 (also with n below 0).");
        for (int bad : NO_SHEETS) {
            DUE.is("from no sheet", x.copy(bad, 0, 0, 0, 1), -2);
            DUE.is("to no sheet", x.copy(3, 0, bad, 0, 1), -2);
        }
        DUE.is("from a missing one", x.copy(3, 0, 0, 0, -1), -11);
        DUE.is("to a missing one", x.copy(0, 0, 3, 0, 99), -11);
        DUE.is("a missing one to itself", x.copy(3, 0, 3, 0, 0), -11);
        DUE.is("unlike sorts", x.copy(0, 0, 2, 0, 1), -13);
        DUE.is("unlike sorts, nothing, outside", x.copy(2, -1, 0, 99, 0), -13);
        int[][] outside = {{-1, 0, 1}, {0, -1, 1}, {0, 0, 6}, {6, 0, 5}, {0, 1, 5}, {0, 0, -1}, {11, 0, 0}, {0, 6, 0},
            {MAX, 0, 1}, {0, MAX, 1}, {1, 1, MAX}, {MIN, 0, 0}, {0, MIN, 0}, {0, 0, MIN}, {MAX, MAX, MAX}};
        for (int[] o : outside) DUE.is("copy(0, " + o[0] + ", 1, " + o[1] + ", " + o[2] + ")", x.copy(0, o[0], 1, o[1], o[2]), -12);
        DUE.is("to itself, one behind its end", x.copy(0, 0, 0, 1, 10), -12);
        DUE.by("n numbers of a SHEET, from item i on, come to another one's item j on (as they were): n.");
        DUE.is("nothing at the ends", x.copy(0, 10, 1, 5, 0), 0);
        DUE.is("all that the other holds", x.copy(0, 5, 1, 0, 5), 5);
        DUE.is("all to itself", x.copy(0, 0, 0, 0, 10), 10);
        x.sheet(1, 2, 0);
        DUE.is("nothing to a row of none", x.copy(0, 10, 1, 0, 0), 0);
        DUE.is("one to a row of none", x.copy(0, 0, 1, 0, 1), -12);
        x.sheet(3, 0, 40);
        x.sheet(1, 0, 40);
        DUE.is("forty", x.copy(3, 0, 1, 0, 40), 40);
        DUE.is("forty-one", x.copy(3, 0, 1, 0, 41), -12);
        DUE.is("bytes to ints", x.copy(3, 0, 0, 0, 1), -13);
        DUE.is("bytes to shorts", x.copy(3, 0, 2, 0, 1), -13);
    }

    /** Overlapping ones come as they were; what came is read by the nights that it makes. */
    private static void copyOverlapping() {
        CushionHall x = oneHall();
        x.sheet(0, 2, 15);
        for (int i = 0; i < 5; i++) x.cell(0, i, new int[] {1, 2, 3, 4, 5}[i]);
        for (int i = 0; i < 5; i++) x.cell(0, 5 + i, new int[] {2, 1, 33, 44, 6}[i]);
        DUE.by("come to another one's item j on (as they were)");
        DUE.is("five places up", x.copy(0, 0, 0, 5, 10), 10);
        DUE.is("nights", x.nights(0, 2, 0, 3), 3);
        long[][] want = {{1, 0, 2, 3, 4, 5}, {1, 0, 2, 3, 4, 5}, {2, 0, 1, 33, 44, 6}};
        for (int n = 0; n < 3; n++) for (int k = 0; k < 6; k++) DUE.is("up: told(" + n + ", " + k + ")", x.told(n, k), want[n][k]);
        DUE.is("five places down", x.copy(0, 5, 0, 0, 10), 10);
        x.sheet(1, 2, 15);
        DUE.is("to another", x.copy(0, 0, 1, 5, 10), 10);
        DUE.is("nights", x.nights(1, 2, 5, 2), 2);
        for (int k = 0; k < 6; k++) DUE.is("down: told(4, " + k + ")", x.told(4, k), want[2][k]);
        x.sheet(0, 2, 15);
        DUE.by("A SHEET becomes a row of n of a sort, all 0");
        DUE.is("a new row is all 0", x.nights(0, 2, 0, 1), 1);
        for (int k = 0; k < 6; k++) DUE.is("all 0: told(5, " + k + ")", x.told(5, k), 0);
        DUE.is("the copy stays", x.nights(1, 2, 10, 1), 1);
        DUE.is("the copy stays", x.told(6, 4), 44);
    }

    private static void nights() {
        CushionHall x = oneHall();
        x.sheet(0, 1, 17);
        DUE.by("BAD: no such SHEET, sort, n; -13; -11; -12: what stood ahead came.");
        for (int bad : NO_SHEETS) DUE.is("nights(" + bad + ", 0, 0, 0)", x.nights(bad, 0, 0, 0), -2);
        for (int bad : new int[] {-1, 3, MIN, MAX}) DUE.is("sort " + bad, x.nights(0, bad, 0, 0), -2);
        for (int bad : new int[] {-1, 9, MIN, MAX}) DUE.is("n " + bad, x.nights(0, 1, 0, bad), -2);
        for (int sort = 0; sort < 3; sort++) DUE.is("missing", x.nights(1, sort, -1, 1), -11);
        DUE.is("missing, none", x.nights(1, 0, 0, 0), -11);
        DUE.is("missing, and a bad sort", x.nights(1, 3, 0, 1), -2);
        DUE.is("missing, and a bad n", x.nights(1, 0, 0, 9), -2);
        DUE.is("another sort, and a bad n", x.nights(0, 0, 0, -1), -2);
        DUE.is("another sort", x.nights(0, 0, -1, 1), -13);
        DUE.is("another sort, none", x.nights(0, 2, 0, 0), -13);
        DUE.by("n of them (0 .. 8): how many came (others are left out)");
        DUE.is("none", x.nights(0, 1, 0, 0), 0);
        DUE.by("-12: what stood ahead came.");
        for (int from : new int[] {-1, -5, 13, 17, MIN, MAX}) DUE.is("from " + from, x.nights(0, 1, from, 1), -12);
        DUE.is("nothing came", x.count(2), 0);
        DUE.is("what stood ahead came", x.nights(0, 1, 2, 4), -12);
        DUE.is("three came", x.count(2), 3);
        DUE.is("to the end", x.nights(0, 1, 12, 1), 1);
        DUE.is("one behind it", x.nights(0, 1, 12, 2), -12);
        DUE.is("that ahead came", x.count(2), 5);
        x.cell(0, 7, 6);
        DUE.by("how many came (others are left out)");
        DUE.is("a bad one is left out", x.nights(0, 1, 2, 3), 2);
        DUE.is("two came", x.count(2), 7);
        DUE.is("the bad one ahead, too", x.nights(0, 1, 7, 3), -12);
        DUE.is("one came", x.count(2), 8);
        DUE.is("the bad one alone", x.nights(0, 1, 7, 1), 0);
        CushionHall y = oneHall();
        y.sheet(0, 2, 5);
        int[][] bad = {{6, 0, 0, 0, 0}, {-1, 0, 0, 0, 0}, {0, 3, 0, 0, 0}, {0, 10, 0, 0, 0}, {0, 0, 1000, 0, 0},
            {0, 0, -1, 0, 0}, {0, 0, 0, 100000, 0}, {0, 0, 0, -1, 0}, {0, 0, 0, 0, 10}, {0, 0, 0, 0, -1}};
        for (int[] five : bad) {
            for (int i = 0; i < 5; i++) y.cell(0, i, five[i]);
            DUE.is("a bad one", y.nights(0, 2, 0, 1), 0);
        }
        DUE.is("none came", y.count(2), 0);
        for (int i = 0; i < 5; i++) y.cell(0, i, new int[] {5, 2, 999, 99999, 9}[i]);
        DUE.is("the greatest", y.nights(0, 2, 0, 1), 1);
    }

    private static void nightsFull() {
        CushionHall x = oneHall();
        x.sheet(0, 0, 40);
        DUE.by("n of them (0 .. 8): how many came (others are left out)");
        for (int i = 1; i <= 4; i++) DUE.is("eight", x.nights(0, 0, 0, 8), 8);
        for (int i = 32; i < 37; i++) x.night(0, 0, 0, 0, 0);
        DUE.is("three have room", x.nights(0, 0, 0, 8), 3);
        DUE.is("none has room", x.nights(0, 0, 0, 8), 0);
        DUE.is("none has room, and outside", x.nights(0, 0, 1, 8), -12);
        DUE.is("forty", x.count(2), 40);
    }

    public static void main(String[] args) {
        missing();
        sheet();
        cell();
        eachCell();
        lowestBits();
        copy();
        copyOverlapping();
        nights();
        nightsFull();
        DUE.end();
    }
}
