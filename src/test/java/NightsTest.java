/** Promises 8, 9 and 31: nights of kinds, and what is told of them. */
public final class NightsTest {
    private static final int MIN = Integer.MIN_VALUE, MAX = Integer.MAX_VALUE;
    private static final long NO = CushionHall.NO;
    private static final Due DUE = new Due();

    /** A hall of 1000 hundreds, in which 1100 (low), 2100 (middle), 3100 (high) are eaten. */
    private static CushionHall oneHall() {
        CushionHall x = new CushionHall();
        x.stuff(102030, 0);
        x.hall(1000, 4, 4);
        x.surface(0, 0, 100);
        return x;
    }

    private static void forty() {
        CushionHall x = oneHall();
        DUE.by("NIGHTS (40 at most, numbered from 0)");
        for (int i = 0; i < 40; i++) DUE.is("night", x.night(i % 6, i % 3, 900 + i, 99999 - i, i % 10), i);
        DUE.is("one more", x.night(0, 0, 0, 0, 0), -4);
        DUE.is("count", x.count(2), 40);
        DUE.is("MANY of the last", x.told(39, 3), 939);
        DUE.is("heard of the last", x.told(39, 4), 99960);
        DUE.is("of one more", x.told(40, 3), NO);
        DUE.by("A NIGHT (where: 10 times HALL and PITCH): its number. BAD; FULL.");
        int[][] bad = {{6, 0, 0, 0, 0}, {0, 3, 0, 0, 0}, {0, 0, 1000, 0, 0}, {0, 0, 0, 100000, 0}, {0, 0, 0, 0, 10}};
        for (int[] b : bad) DUE.is("a bad one more", x.night(b[0], b[1], b[2], b[3], b[4]), -2);
    }

    private static void bounds() {
        CushionHall x = oneHall();
        DUE.by("have a KIND: 0 NIGHT, 1 CUSHIONED under NIGHT, 2 WINDOWED under NIGHT, 3 PEOPLED under CUSHIONED, 4 COATED under CUSHIONED, 5 FAR under WINDOWED");
        for (int bad : new int[] {-1, 6, MIN, MAX}) DUE.is("kind " + bad, x.night(bad, 0, 0, 0, 0), -2);
        DUE.by("(where: 10 times HALL and PITCH): its number");
        for (int bad : new int[] {-1, 3, 9, 10, -10, 13, MIN, MAX}) DUE.is("where " + bad, x.night(0, bad, 0, 0, 0), -2);
        DUE.by("so MANY (0 .. 999)");
        for (int bad : new int[] {-1, 1000, MIN, MAX}) DUE.is("many " + bad, x.night(0, 0, bad, 0, 0), -2);
        DUE.is("least MANY", x.night(5, 0, 0, 0, 0), 0);
        DUE.is("greatest MANY", x.night(0, 2, 999, 0, 0), 1);
        DUE.is("MANY", x.told(1, 3), 999);
        DUE.by("the time that was heard (0 .. 99999)");
        for (int bad : new int[] {-1, 100000, MIN, MAX}) DUE.is("heard " + bad, x.night(0, 0, 0, bad, 0), -2);
        DUE.is("longest heard", x.night(0, 0, 0, 99999, 0), 2);
        DUE.is("heard", x.told(2, 4), 99999);
        DUE.is("nothing heard", x.night(0, 0, 0, 0, 0), 3);
        DUE.is("heard", x.told(3, 4), 0);
        DUE.by("and TIRED (0 .. 9)");
        for (int bad : new int[] {-1, 10, MIN, MAX}) DUE.is("tired " + bad, x.night(0, 0, 0, 0, bad), -2);
        DUE.is("least tired", x.night(0, 0, 0, 1, 0), 4);
        DUE.is("LATE", x.told(4, 7), 0);
        DUE.is("most tired", x.night(0, 0, 0, 1, 9), 5);
        DUE.is("LATE", x.told(5, 7), 18);
        DUE.is("count after BAD", x.count(2), 6);
    }

    private static void wheres() {
        CushionHall x = oneHall();
        for (int i = 1; i < 6; i++) x.hall(i, 2, 2);
        DUE.by("A NIGHT (where: 10 times HALL and PITCH)");
        int came = 0;
        for (int hall = 0; hall < 6; hall++) {
            for (int pitch = 0; pitch < 3; pitch++) {
                DUE.is("night in " + hall + " by " + pitch, x.night(0, 10 * hall + pitch, 0, 1, 0), came);
                DUE.is("HALL", x.told(came, 1), hall);
                DUE.is("PITCH", x.told(came, 2), pitch);
                DUE.is("DUE", x.told(came, 8), hall == 0 ? 4900000 / (1100 + 1000 * pitch) : 49 * hall);
                came++;
            }
            DUE.is("no such PITCH", x.night(0, 10 * hall + 3, 0, 1, 0), -2);
            DUE.is("no such PITCH", x.night(0, 10 * hall + 9, 0, 1, 0), -2);
        }
        DUE.is("no such HALL", x.night(0, 60, 0, 1, 0), -2);
    }

    private static void told() {
        CushionHall x = oneHall();
        x.hall(500, 2, 2);
        x.night(4, 12, 33, 777, 6);
        DUE.by("Of a NIGHT: 0 KIND, 1 HALL, 2 PITCH, 3 MANY, 4 heard, 5 TIRED, 6 MORE, 7 LATE, 8 DUE, 9 OFF, 10 LEFT OUT (1, 0). NO: none such.");
        long[] want = {4, 1, 2, 33, 777, 6, 3330, 13, 2450000 / 3430 + 13, 777 - 727, 0};
        for (int what = 0; what <= 10; what++) DUE.is("told(0, " + what + ")", x.told(0, what), want[what]);
        for (int bad : new int[] {-1, 11, MIN, MAX}) DUE.is("what " + bad, x.told(0, bad), NO);
        for (int bad : new int[] {-1, 1, MIN, MAX}) DUE.is("night " + bad, x.told(bad, 0), NO);
        x.night(0, 10, 0, 0, 0);
        DUE.is("heard nothing: left out", x.told(1, 10), 1);
    }

    /** 7 of each KIND, tired 3: the RULE says 6 late. */
    private static void kinds() {
        CushionHall x = oneHall();
        for (int kind = 0; kind < 6; kind++) x.night(kind, 1, 7, 2000, 3);
        x.set(1, 101);
        x.set(2, 11);
        x.set(3, 5);
        DUE.by("DUE of a NIGHT: SIZE of its HALL times 100 times LAW by (what is EATEN there by its PITCH and MORE), and LATE. OFF: what was heard less DUE.");
        long[] more = {0, 707, 700, 77 + 353, 712, 233};
        long[] late = {6, 7, 6, 3, 7, 12};
        for (int kind = 0; kind < 6; kind++) {
            long due = 4900000 / (2100 + more[kind]) + late[kind];
            DUE.is("MORE of kind " + kind, x.told(kind, 6), more[kind]);
            DUE.is("LATE of kind " + kind, x.told(kind, 7), late[kind]);
            DUE.is("DUE of kind " + kind, x.told(kind, 8), due);
            DUE.is("OFF of kind " + kind, x.told(kind, 9), 2000 - due);
        }
        x.set(0, 7);
        DUE.is("DUE by another LAW", x.told(0, 8), 700000 / 2100 + 6);
        x.cover(0, 0, 0);
        x.surface(0, 0, 10);
        DUE.is("DUE by another SURFACE", x.told(0, 8), 700000 / 2300 + 6);
        DUE.by("Quotients are cut toward 0.");
        CushionHall y = new CushionHall();
        y.stuff(10101, 0);
        y.hall(1, 2, 2);
        y.surface(0, 0, 1);
        y.set(0, 1);
        y.night(0, 0, 0, 1, 0);
        DUE.is("100 by 101", y.told(0, 8), 0);
        y.set(0, 2);
        DUE.is("200 by 101", y.told(0, 8), 1);
    }

    /** MORE of each KIND with so MANY, by what CUSHION, PERSON, COAT are. */
    private static void more(int many, int cushion, int person, int coat, long[] want) {
        CushionHall x = oneHall();
        x.set(1, cushion);
        x.set(2, person);
        x.set(3, coat);
        for (int kind = 0; kind < 6; kind++) {
            x.night(kind, 0, many, 1, 0);
            DUE.is("MORE of kind " + kind + " with " + many, x.told(kind, 6), want[kind]);
        }
    }

    private static void moreBounds() {
        DUE.by("MORE that is eaten: NIGHT 0; CUSHIONED: a NIGHT's and MANY times CUSHION; WINDOWED: a NIGHT's and MANY times 100");
        more(0, 999, 999, 999, new long[] {0, 0, 0, 0, 999, 0});
        more(999, 999, 999, 999, new long[] {0, 998001, 99900, 998001 + 499000, 999000, 33300});
        DUE.by("PEOPLED: MANY times PERSON, and half of a CUSHIONED one's");
        more(1, 1, 0, 0, new long[] {0, 1, 100, 0, 1, 33});
        more(1, 3, 5, 0, new long[] {0, 3, 100, 6, 3, 33});
        more(3, 0, 7, 0, new long[] {0, 0, 300, 21, 0, 100});
        DUE.by("COATED: a CUSHIONED one's and COAT");
        more(0, 0, 0, 0, new long[] {0, 0, 0, 0, 0, 0});
        more(2, 10, 0, 1, new long[] {0, 20, 200, 10, 21, 66});
        DUE.by("FAR: a third of a WINDOWED one's");
        more(4, 0, 0, 0, new long[] {0, 0, 400, 0, 0, 133});
        more(5, 0, 0, 0, new long[] {0, 0, 500, 0, 0, 166});
    }

    /** LATE of each KIND, by a RULE. */
    private static void late(String e, long... want) {
        CushionHall x = oneHall();
        for (int kind = 0; kind < 6; kind++) x.night(kind, 1, 7, 2000, 0);
        DUE.is("late " + e, Due.read(x, "late " + e + "; leave 0;"), 1);
        x.force(1);
        for (int kind = 0; kind < 6; kind++) DUE.is("LATE of kind " + kind + ", late " + e, x.told(kind, 7), want[kind]);
        DUE.is("DUE by it", x.told(5, 8), 4900000 / (2100 + 233) + want[5]);
    }

    /** What THE RULE says is kept within 0 .. 999 ahead of what the KINDS add. */
    private static void lateBounds() {
        DUE.by("LATE (how late the key was pressed): NIGHT: what late of THE RULE says (0 .. 999, else the bound)");
        late("0", 0, 1, 0, 0, 1, 0);
        late("-1", 0, 1, 0, 0, 1, 0);
        late("-5", 0, 1, 0, 0, 1, 0);
        late("8192*8192*32", 0, 1, 0, 0, 1, 0);
        late("998", 998, 999, 998, 995, 999, 1996);
        late("999", 999, 1000, 999, 996, 1000, 1998);
        late("1000", 999, 1000, 999, 996, 1000, 1998);
        late("8192*8192*32-1", 999, 1000, 999, 996, 1000, 1998);
        DUE.by("CUSHIONED 1 more than a NIGHT; WINDOWED as a NIGHT");
        late("1", 1, 2, 1, 0, 2, 2);
        DUE.by("PEOPLED 4 less than a CUSHIONED one (0 at least)");
        late("2", 2, 3, 2, 0, 3, 4);
        late("3", 3, 4, 3, 0, 4, 6);
        late("4", 4, 5, 4, 1, 5, 8);
        DUE.by("COATED as a CUSHIONED one; FAR twice a WINDOWED one's");
        late("500", 500, 501, 500, 497, 501, 1000);
    }

    private static void taken() {
        CushionHall x = oneHall();
        for (int kind = 0; kind < 6; kind++) x.night(kind, 1, 10 + kind, 2000, 3);
        DUE.by("A NIGHT taken for one of KIND k (0 .. 5), or one under that one (also by others between): its MANY.");
        int[][] above = {{0}, {0, 1}, {0, 2}, {0, 1, 3}, {0, 1, 4}, {0, 2, 5}};
        for (int kind = 0; kind < 6; kind++) {
            for (int k = 0; k < 6; k++) {
                long want = -13;
                for (int a : above[kind]) if (a == k) want = 10 + kind;
                DUE.is("taken(" + kind + ", " + k + ")", x.taken(kind, k), want);
            }
        }
        x.night(5, 0, 0, 1, 0);
        DUE.is("MANY 0", x.taken(6, 0), 0);
        x.night(3, 0, 999, 1, 0);
        DUE.is("MANY 999", x.taken(7, 1), 999);
        DUE.by("BAD: k; -11: no such NIGHT; -13.");
        for (int bad : new int[] {-1, 6, MIN, MAX}) {
            DUE.is("taken(0, " + bad + ")", x.taken(0, bad), -2);
            DUE.is("taken(99, " + bad + ")", x.taken(99, bad), -2);
            DUE.is("taken(" + bad + ", 0)", x.taken(bad == 6 ? 8 : bad, 0), -11);
            DUE.is("taken(" + bad + ", 5)", x.taken(bad == 6 ? 8 : bad, 5), -11);
        }
    }

    public static void main(String[] args) {
        forty();
        bounds();
        wheres();
        told();
        kinds();
        moreBounds();
        lateBounds();
        taken();
        DUE.end();
    }
}
