/** Promises 8, 9 and 31: nights of kinds, and what is told of them. */
public final class NightsTest {
    private static final int MIN = Integer.MIN_VALUE, MAX = Integer.MAX_VALUE;
    private static final Due DUE = new Due();

    /** A hall of 1000 hundreds, in which 1100 (low), 2100 (middle), 3100 (high) are eaten. */
    private static CushionHall oneHall() {
        CushionHall x = new CushionHall();
        x.stuff(102030, 0);
        x.hall(1000, 4, 4);
        x.surface(0, 0, 100);
        return x;
    }

    private static void wrongNights() {
        CushionHall x = oneHall();
        for (int bad : new int[] {-1, 6, MIN, MAX}) DUE.is("kind " + bad, x.night(bad, 0, 0, 0, 0), -2);
        for (int bad : new int[] {-1, 3, 9, 10, -10, 13, MIN, MAX}) DUE.is("where " + bad, x.night(0, bad, 0, 0, 0), -2);
        for (int bad : new int[] {-1, 1000, MIN, MAX}) DUE.is("many " + bad, x.night(0, 0, bad, 0, 0), -2);
        for (int bad : new int[] {-1, 100000, MIN, MAX}) DUE.is("heard " + bad, x.night(0, 0, 0, bad, 0), -2);
        for (int bad : new int[] {-1, 10, MIN, MAX}) DUE.is("tired " + bad, x.night(0, 0, 0, 0, bad), -2);
        DUE.is("count after BAD", x.count(2), 0);
        for (int i = 0; i < 40; i++) DUE.is("night", x.night(i % 6, i % 3, 999, 99999, 9), i);
        DUE.is("one more", x.night(0, 0, 0, 0, 0), -4);
        DUE.is("a bad one more", x.night(0, 0, 0, 0, 10), -2);
        DUE.is("count", x.count(2), 40);
    }

    private static void told() {
        CushionHall x = oneHall();
        x.hall(500, 2, 2);
        x.night(4, 12, 33, 777, 6);
        long[] want = {4, 1, 2, 33, 777, 6, 3330, 13, 2450000 / 3430 + 13, 777 - 727, 0};
        for (int what = 0; what <= 10; what++) DUE.is("told(0, " + what + ")", x.told(0, what), want[what]);
        for (int bad : new int[] {-1, 11, MIN, MAX}) DUE.is("what " + bad, x.told(0, bad), CushionHall.NO);
        for (int bad : new int[] {-1, 1, MIN, MAX}) DUE.is("night " + bad, x.told(bad, 0), CushionHall.NO);
        x.night(0, 10, 0, 0, 0);
        DUE.is("heard nothing: left out", x.told(1, 10), 1);
        for (int i = 2; i < 6; i++) x.hall(1, 2, 2);
        x.night(0, 50, 0, 0, 0);
        DUE.is("the last HALL", x.told(2, 1), 5);
        DUE.is("the low PITCH", x.told(2, 2), 0);
    }

    /** 7 of each KIND, tired 3: the RULE says 6 late. */
    private static void kinds() {
        CushionHall x = oneHall();
        for (int kind = 0; kind < 6; kind++) x.night(kind, 1, 7, 2000, 3);
        x.set(1, 101);
        x.set(2, 11);
        x.set(3, 5);
        long[] more = {0, 707, 700, 77 + 353, 712, 233};
        long[] late = {6, 7, 6, 3, 7, 12};
        for (int kind = 0; kind < 6; kind++) {
            long due = 4900000 / (2100 + more[kind]) + late[kind];
            DUE.is("MORE of kind " + kind, x.told(kind, 6), more[kind]);
            DUE.is("LATE of kind " + kind, x.told(kind, 7), late[kind]);
            DUE.is("DUE of kind " + kind, x.told(kind, 8), due);
            DUE.is("OFF of kind " + kind, x.told(kind, 9), 2000 - due);
        }
        x.set(0, 7);
        DUE.is("DUE by another LAW", x.told(0, 8), 700000 / 2100 + 6);
        x.cover(0, 0, 0);
        x.surface(0, 0, 10);
        DUE.is("DUE by another SURFACE", x.told(0, 8), 700000 / 2300 + 6);
    }

    /** LATE at its bounds: what the RULE says is kept within 0 .. 999 ahead of what the KINDS add. */
    private static void lateBounds() {
        CushionHall x = oneHall();
        for (int kind = 0; kind < 6; kind++) x.night(kind, 1, 7, 2000, kind == 3 ? 1 : 3);
        DUE.is("LATE of one PEOPLED, tired 1: none below 0", x.told(3, 7), 0);
        x.force(Due.read(x, "late - 5; leave 0;"));
        long[] low = {0, 1, 0, 0, 1, 0};
        for (int kind = 0; kind < 6; kind++) DUE.is("low LATE of kind " + kind, x.told(kind, 7), low[kind]);
        x.force(Due.read(x, "late 1000; leave 0;"));
        long[] high = {999, 1000, 999, 996, 1000, 1998};
        for (int kind = 0; kind < 6; kind++) DUE.is("high LATE of kind " + kind, x.told(kind, 7), high[kind]);
        x.force(Due.read(x, "late 999; leave 0;"));
        DUE.is("LATE at the bound", x.told(0, 7), 999);
    }

    private static void taken() {
        CushionHall x = oneHall();
        for (int kind = 0; kind < 6; kind++) x.night(kind, 1, 10 + kind, 2000, 3);
        int[][] above = {{0}, {0, 1}, {0, 2}, {0, 1, 3}, {0, 1, 4}, {0, 2, 5}};
        for (int kind = 0; kind < 6; kind++) {
            for (int k = 0; k < 6; k++) {
                long want = -13;
                for (int a : above[kind]) if (a == k) want = 10 + kind;
                DUE.is("taken(" + kind + ", " + k + ")", x.taken(kind, k), want);
            }
        }
        for (int bad : new int[] {-1, 6, MIN, MAX}) {
            DUE.is("taken(0, " + bad + ")", x.taken(0, bad), -2);
            DUE.is("taken(99, " + bad + ")", x.taken(99, bad), -2);
            DUE.is("taken(" + bad + ", 0)", x.taken(bad, 0), -11);
        }
    }

    public static void main(String[] args) {
        wrongNights();
        told();
        kinds();
        lateBounds();
        taken();
        DUE.end();
    }
}
