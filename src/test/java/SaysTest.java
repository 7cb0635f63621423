/** Promises 13 to 17: what all nights say together. */
public final class SaysTest {
    private static final int MIN = Integer.MIN_VALUE, MAX = Integer.MAX_VALUE;
    private static final int[] BAD_LAWS = {0, -1, 60, 999, 1000, 40030, 1061, 939999, 1000999, 1000001, -1001, -30040, MIN, MAX};
    private static final Due DUE = new Due();

    /** A bare hall in which a NIGHT lasts 100 times LAW. */
    private static CushionHall bare() {
        CushionHall x = new CushionHall();
        x.hall(100, 4, 4);
        return x;
    }

    private static void fits(String what, CushionHall x, int from, int to, long law, long cushion, long off) {
        DUE.is(what + ": LAW", x.fit(from, to, 0), law);
        DUE.is(what + ": CUSHION", x.fit(from, to, 1), cushion);
        DUE.is(what + ": OFF", x.fit(from, to, 2), off);
    }

    private static void fit() {
        CushionHall x = bare();
        fits("no nights", x, 20, 40, 20, 0, 0);
        x.night(0, 0, 0, 3000, 0);
        fits("one night", x, 20, 40, 30, 0, 0);
        fits("below it", x, 20, 29, 29, 0, 100);
        fits("above it", x, 31, 40, 31, 0, 100);
        x.night(1, 0, 10, 501, 0);
        fits("with a cushioned one", x, 20, 40, 30, 50, 0);
        x.night(0, 0, 0, 0, 0);
        fits("with one left out", x, 20, 40, 30, 50, 0);
        x.set(0, 900);
        x.set(1, 9);
        fits("LAW and CUSHION as they are don't matter", x, 20, 40, 30, 50, 0);
        DUE.is("LAW stays", x.set(0, 900), 900);
        DUE.is("CUSHION stays", x.set(1, 9), 9);
        x.force(Due.read(x, "late 0; leave kind = 0;"));
        fits("by another rule", x, 20, 20, 20, 30, 0);
        CushionHall y = bare();
        y.night(0, 0, 0, 3050, 0);
        fits("of like ones the least LAW", y, 20, 40, 30, 0, 50);
        y.night(4, 0, 1, 2000, 0);
        y.set(3, 900);
        fits("others as they are: a coat eats 900", y, 30, 30, 30, 0, 50 + 2000 - 301);
    }

    private static void fitRefuses() {
        CushionHall x = bare();
        int[][] bad = {{0, 5}, {-1, 5}, {5, 4}, {1, 61}, {940, 1000}, {1000, 1000}, {MIN, MAX}, {MAX, MIN}, {1, MAX}};
        for (int[] b : bad) DUE.is("fit(" + b[0] + ", " + b[1] + ", 0)", x.fit(b[0], b[1], 0), CushionHall.NO);
        for (int what : new int[] {-1, 3, MIN, MAX}) DUE.is("fit(1, 2, " + what + ")", x.fit(1, 2, what), CushionHall.NO);
        DUE.is("60 laws", x.fit(1, 60, 0), 1);
        DUE.is("the last 60 laws", x.fit(940, 999, 0), 940);
        DUE.is("one law", x.fit(999, 999, 0), 999);
    }

    private static void lets(String what, CushionHall x, int slip, long many, long least, long greatest) {
        DUE.is(what + ": how many", x.lets(20040, slip, 0), many);
        DUE.is(what + ": the least", x.lets(20040, slip, 1), least);
        DUE.is(what + ": the greatest", x.lets(20040, slip, 2), greatest);
    }

    private static void lets() {
        CushionHall x = bare();
        lets("no nights", x, 0, 2100, 0, 990);
        x.night(0, 0, 0, 3000, 0);
        lets("exact", x, 0, 100, 0, 990);
        lets("slip 99", x, 99, 100, 0, 990);
        lets("slip 100", x, 100, 300, 0, 990);
        x.night(1, 0, 10, 501, 0);
        lets("with a cushioned one", x, 0, 1, 50, 50);
        // by LAW 30: 300000 by 500, 600, 700, and 1: 601, 501, 429
        lets("slip 72", x, 72, 2, 50, 60);
        lets("slip 99", x, 99, 2, 50, 60);
        x.night(0, 0, 0, 0, 0);
        lets("with one left out", x, 0, 1, 50, 50);
        x.night(0, 0, 0, 9999, 0);
        lets("none", x, 0, 0, -1, -1);
    }

    /** 101 is eaten in a hall of 1: by LAWS 1, 2, .. 5 a NIGHT lasts 0, 1, .. 4. */
    private static void letsJustSo() {
        for (int heard = 0; heard < 5; heard++) {
            CushionHall x = new CushionHall();
            x.stuff(10101, 0);
            x.hall(1, 2, 2);
            x.surface(0, 0, 1);
            x.force(Due.read(x, "late 0; leave 0;"));
            x.night(0, 0, 0, heard, 0);
            DUE.is("heard " + heard, x.lets(1005, 0, 0), 100);
            DUE.is("heard " + heard + ", by its LAW", x.lets(1001 * (heard + 1), 0, 0), 100);
            DUE.is("heard " + heard + ", slip 1", x.lets(1005, 1, 0), heard % 4 == 0 ? 200 : 300);
        }
    }

    private static void letsRefuses() {
        CushionHall x = bare();
        for (int bad : BAD_LAWS) {
            DUE.is("lets(" + bad + ", 0, 0)", x.lets(bad, 0, 0), -2);
            DUE.is("thrownOut(" + bad + ", 0)", x.thrownOut(bad, 0), -2);
            DUE.is("narrows(" + bad + ", 0, 0, 0)", x.narrows(bad, 0, 0, 0), -2);
        }
        for (int bad : new int[] {-1, 10000, MIN, MAX}) {
            DUE.is("lets(1001, " + bad + ", 0)", x.lets(1001, bad, 0), -2);
            DUE.is("thrownOut(1001, " + bad + ")", x.thrownOut(1001, bad), -2);
            DUE.is("narrows(1001, " + bad + ", 0, 0)", x.narrows(1001, bad, 0, 0), -2);
        }
        for (int bad : new int[] {-1, 3, MIN, MAX}) DUE.is("lets(1001, 0, " + bad + ")", x.lets(1001, 0, bad), -2);
        DUE.is("60 laws", x.lets(1060, 9999, 0), 6000);
        DUE.is("the last 60 laws", x.lets(940999, 0, 0), 6000);
        DUE.is("one law", x.lets(999999, 0, 0), 100);
        DUE.is("60 laws", x.thrownOut(940999, 9999), -1);
    }

    private static void thrownOut() {
        CushionHall x = bare();
        DUE.is("no nights", x.thrownOut(20040, 0), -1);
        x.night(0, 0, 0, 3000, 0);
        x.night(0, 0, 0, 0, 0);
        x.night(0, 0, 0, 3000, 0);
        DUE.is("all agree, one is left out", x.thrownOut(20040, 0), -1);
        x.night(0, 0, 0, 5000, 0);
        x.night(0, 0, 0, 9000, 0);
        DUE.is("the first that does not", x.thrownOut(20040, 0), 3);
        DUE.is("a slip that lets it", x.thrownOut(20040, 1000), 4);
        DUE.is("a slip one below", x.thrownOut(20040, 999), 3);
        DUE.is("a slip that lets all", x.thrownOut(20040, 5000), -1);
        DUE.is("the first alone", x.thrownOut(31040, 99), 0);
        x.force(Due.read(x, "late 0; leave many = 0 and (time = 5 * 1000 or 0 = time);"));
        DUE.is("by another rule", x.thrownOut(20040, 0), 4);
    }

    private static void better(String what, CushionHall x, int hall, long straight, long bent, long better) {
        DUE.is(what + ": STRAIGHT", x.better(hall, 0), straight);
        DUE.is(what + ": BENT", x.better(hall, 1), bent);
        DUE.is(what + ": BETTER", x.better(hall, 2), better);
    }

    private static void better() {
        CushionHall x = bare();
        x.hall(100, 2, 2);
        better("no nights", x, 0, -3, -3, -3);
        x.night(0, 0, 0, 10, 0);
        better("one night", x, 0, -3, -3, -3);
        x.night(0, 1, 0, 20, 0);
        better("two of like MANY", x, 0, -3, -3, -3);
        x.night(0, 10, 5, 20, 0);
        better("one of unlike MANY elsewhere", x, 0, -3, -3, -3);
        x.night(0, 0, 5, 0, 0);
        better("one of unlike MANY, left out", x, 0, -3, -3, -3);
        CushionHall y = bare();
        y.force(Due.read(y, "late 0; leave 0;"));
        y.night(0, 0, 0, 10, 0);
        y.night(0, 0, 3, 0, 0);
        y.night(0, 2, 1, 5, 0);
        // from the first to the second, at 1: 10 less 3 (a third of 10, cut toward 0) is off by 2
        better("cut toward 0", y, 0, 2, 4890 + 4900 + 4895, -1);
        y.night(1, 0, 3, 900, 0);
        // the line from the first to the third, at 3: -5; to the fourth, at 1: 306, at 3: 900; and so on
        DUE.is("with one of like MANY", y.better(0, 0), 902);
        CushionHall w = bare();
        w.night(0, 0, 0, 10, 0);
        w.night(0, 0, 2, 11, 0);
        w.night(0, 0, 1, 10, 0);
        DUE.is("exactly, by the first two alone", w.better(0, 0), 0);
        CushionHall z = bare();
        z.night(0, 0, 0, 4900, 0);
        z.night(0, 0, 5, 4900, 0);
        better("alike", z, 0, 0, 0, 0);
        z.night(0, 0, 9, 4910, 0);
        // from the first to the third, at 5: 4900 and 5 (five ninths of 10, cut)
        better("three", z, 0, 5, 10, -1);
        z.set(0, 50);
        better("by the LAW as it is", z, 0, 5, 290, -1);
        for (int bad : new int[] {-1, 1, MIN, MAX}) DUE.is("hall " + bad, z.better(bad, 0), CushionHall.NO);
        for (int bad : new int[] {-1, 3, MIN, MAX}) DUE.is("what " + bad, z.better(0, bad), CushionHall.NO);
    }

    private static void narrows() {
        CushionHall x = bare();
        x.night(0, 0, 0, 3000, 0);
        // CUSHIONS 0 and 990; by LAW 49, 490000 by 100 and by 100 + 990 times MANY: 3 is left from 124, 2 from 165 on
        DUE.is("of like ones the least", x.narrows(20040, 0, 0, 200), 180);
        DUE.is("up to 179", x.narrows(20040, 0, 0, 179), 140);
        DUE.is("up to 180", x.narrows(20040, 0, 0, 180), 180);
        DUE.is("up to 20", x.narrows(20040, 0, 2, 20), 20);
        DUE.is("up to 19", x.narrows(20040, 0, 0, 19), 0);
        DUE.is("up to 0", x.narrows(20040, 0, 0, 0), 0);
        x.stuff(505050, 0);
        x.hall(100, 2, 2);
        x.surface(1, 0, 9999);
        // 490000 by 500050 and more: 0 by any CUSHION
        DUE.is("in another HALL", x.narrows(20040, 0, 12, 200), 0);
        x.set(0, 1);
        // 10000 by 100 + 990 times MANY: 0 from 11 on
        DUE.is("by the LAW as it is", x.narrows(20040, 0, 0, 200), 20);
        x.night(1, 0, 10, 501, 0);
        DUE.is("one CUSHION only", x.narrows(20040, 0, 0, 200), 0);
        x.night(0, 0, 0, 9999, 0);
        DUE.is("LETS has none", x.narrows(20040, 0, 0, 200), -3);
        for (int bad : new int[] {-1, 3, 9, 13, 20, -10, MIN, MAX}) DUE.is("where " + bad, x.narrows(20040, 0, bad, 20), -2);
        for (int bad : new int[] {-1, 201, MIN, MAX}) DUE.is("most " + bad, x.narrows(20040, 0, 0, bad), -2);
        DUE.is("nights stay", x.count(2), 3);
    }

    public static void main(String[] args) {
        fit();
        fitRefuses();
        lets();
        letsJustSo();
        letsRefuses();
        thrownOut();
        better();
        narrows();
        DUE.end();
    }
}
