/** Promises 13 to 17: what all nights say together. */
public final class SaysTest {
    private static final int MIN = Integer.MIN_VALUE, MAX = Integer.MAX_VALUE;
    private static final long NO = CushionHall.NO;
    private static final int[] BAD_LAWS = {
        0, -1, 60, 999, 1000, 40030, 1061, 939999, 1000999, 1000001, 1001001, -1001, -30040, MIN, MAX};
    private static final Due DUE = new Due();

    /** A bare hall in which a NIGHT lasts 100 times LAW. */
    private static CushionHall bare() {
        CushionHall x = new CushionHall();
        x.hall(100, 4, 4);
        return x;
    }

    private static void fits(String what, CushionHall x, int from, int to, long law, long cushion, long off) {
        DUE.is(what + ": LAW", x.fit(from, to, 0), law);
        DUE.is(what + ": CUSHION", x.fit(from, to, 1), cushion);
        DUE.is(what + ": OFF", x.fit(from, to, 2), off);
    }

    private static void fit() {
        DUE.by("the pair by which all NIGHTS that aren't LEFT OUT are least OFF (without signs, together; others as they are)");
        CushionHall x = bare();
        fits("no nights", x, 20, 40, 20, 0, 0);
        x.night(0, 0, 0, 3000, 0);
        fits("one night", x, 20, 40, 30, 0, 0);
        fits("below it", x, 20, 29, 29, 0, 100);
        fits("above it", x, 31, 40, 31, 0, 100);
        x.night(1, 0, 10, 501, 0);
        fits("with a cushioned one", x, 20, 40, 30, 50, 0);
        x.night(0, 0, 0, 0, 0);
        fits("with one left out", x, 20, 40, 30, 50, 0);
        x.set(0, 900);
        x.set(1, 9);
        fits("LAW and CUSHION as they are don't matter", x, 20, 40, 30, 50, 0);
        DUE.is("LAW stays", x.set(0, 900), 900);
        DUE.is("CUSHION stays", x.set(1, 9), 9);
        x.force(Due.read(x, "late 0; leave kind = 0;"));
        fits("by another rule", x, 20, 20, 20, 30, 0);
        CushionHall y = bare();
        y.force(Due.read(y, "late 0; leave 1;"));
        y.night(0, 0, 0, 3000, 0);
        fits("all are left out", y, 20, 40, 20, 0, 0);
        CushionHall z = bare();
        z.night(0, 0, 0, 3050, 0);
        z.night(4, 0, 1, 2000, 0);
        z.set(3, 900);
        fits("others as they are: a coat eats 900", z, 30, 30, 30, 0, 50 + 2000 - 301);
        CushionHall w = bare();
        w.night(0, 0, 0, 2000, 0);
        w.night(0, 0, 0, 3000, 0);
        fits("without signs, one above and one below", w, 25, 25, 25, 0, 1000);
        w.night(0, 0, 0, 2999, 0);
        fits("together, less by 1 than by the LAW below", w, 29, 30, 30, 0, 1001);
    }

    private static void cushionsOfFit() {
        DUE.by("and CUSHIONS that eat 0, 10, .. 990");
        // by LAW 30 and one cushion: 300000 by 100 and what it eats, and 1: 278 by 980, 276 by 990
        CushionHall x = bare();
        x.night(1, 0, 1, 276, 0);
        fits("the greatest", x, 30, 30, 30, 990, 0);
        CushionHall y = bare();
        y.night(1, 0, 1, 1, 0);
        fits("beyond the greatest", y, 30, 30, 30, 990, 275);
        CushionHall z = bare();
        z.night(1, 0, 1, 3001, 0);
        fits("the least", z, 30, 30, 30, 0, 0);
        CushionHall w = bare();
        w.night(1, 0, 1, 2728, 0);
        fits("the one behind the least", w, 30, 30, 30, 10, 0);
        CushionHall v = bare();
        v.night(1, 0, 1, 2858, 0);
        fits("5, of which there is none", v, 30, 30, 30, 10, 130);
    }

    private static void likeOnes() {
        DUE.by("of like ones the least LAW, then the least CUSHION");
        CushionHall x = bare();
        x.night(0, 0, 0, 3050, 0);
        fits("two LAWS alike, all CUSHIONS alike", x, 20, 40, 30, 0, 50);
        CushionHall y = bare();
        y.night(1, 0, 0, 3001, 0);
        fits("all CUSHIONS alike", y, 20, 40, 30, 0, 0);
        // the least sum comes by LAW 23 with a CUSHION of 950, and by LAW 24 with one of 850
        CushionHall z = bare();
        z.night(1, 0, 20, 15, 0);
        z.night(1, 0, 10, 9, 0);
        z.night(1, 0, 20, 2560, 0);
        fits("the least LAW by the greater CUSHION", z, 23, 25, 23, 950, 2564);
        fits("the other one", z, 24, 25, 24, 850, 2564);
    }

    private static void fitRefuses() {
        CushionHall x = bare();
        DUE.by("FIT of LAWS from .. to (1 .. 999, from not above to, 60 at most): what 0 LAW, 1 CUSHION, 2 how far all are OFF. NO: LAWS, what.");
        int[][] bad = {{0, 5}, {0, 0}, {-1, 5}, {5, 4}, {999, 1}, {1, 61}, {939, 999}, {940, 1000}, {999, 1000},
            {1000, 1000}, {MIN, MAX}, {MAX, MIN}, {1, MAX}, {MIN, 1}, {MAX, MAX}, {MIN, MIN}};
        for (int[] b : bad) DUE.is("fit(" + b[0] + ", " + b[1] + ", 0)", x.fit(b[0], b[1], 0), NO);
        for (int what : new int[] {-1, 3, MIN, MAX}) DUE.is("fit(1, 2, " + what + ")", x.fit(1, 2, what), NO);
        DUE.is("60 laws", x.fit(1, 60, 0), 1);
        DUE.is("the last 60 laws", x.fit(940, 999, 0), 940);
        DUE.is("the first law", x.fit(1, 1, 0), 1);
        DUE.is("the last law", x.fit(999, 999, 0), 999);
        x.night(0, 0, 0, 99900, 0);
        fits("the last of 60", x, 940, 999, 999, 0, 0);
        CushionHall y = bare();
        y.night(0, 0, 0, 100, 0);
        fits("the first of 60", y, 1, 60, 1, 0, 0);
    }

    private static void lets(String what, CushionHall x, int slip, long many, long least, long greatest) {
        DUE.is(what + ": how many", x.lets(20040, slip, 0), many);
        DUE.is(what + ": the least", x.lets(20040, slip, 1), least);
        DUE.is(what + ": the greatest", x.lets(20040, slip, 2), greatest);
    }

    private static void lets() {
        CushionHall x = bare();
        DUE.by("of these pairs those by which each such NIGHT is OFF by no more than that: how many; the least and the greatest CUSHION of these");
        lets("no nights", x, 0, 2100, 0, 990);
        x.night(0, 0, 0, 3000, 0);
        lets("exact", x, 0, 100, 0, 990);
        lets("slip 99", x, 99, 100, 0, 990);
        lets("slip 100", x, 100, 300, 0, 990);
        lets("slip 101", x, 101, 300, 0, 990);
        x.night(1, 0, 10, 501, 0);
        lets("with a cushioned one", x, 0, 1, 50, 50);
        // by LAW 30: 300000 by 500, 600, 700, and 1: 601, 501, 429
        lets("slip 71", x, 71, 1, 50, 50);
        lets("slip 72", x, 72, 2, 50, 60);
        lets("slip 99", x, 99, 2, 50, 60);
        x.night(0, 0, 0, 0, 0);
        lets("with one left out", x, 0, 1, 50, 50);
        DUE.by("2 the greatest (NONE: there is none). BAD.");
        x.night(0, 0, 0, 9999, 0);
        lets("none", x, 0, 0, -1, -1);
        DUE.by("LETS of a slip (0 .. 9999)");
        lets("the greatest slip", x, 9999, 2100, 0, 990);
        CushionHall y = bare();
        y.night(0, 0, 0, 99999, 0);
        y.set(0, 999);
        DUE.is("OFF by 9999 and no more", y.lets(900900, 9999, 0), 100);
        DUE.is("OFF by 10099", y.lets(899899, 9999, 0), 0);
    }

    /** 101 is eaten in a hall of 1: by LAWS 1, 2, .. 5 a NIGHT lasts 0, 1, .. 4. */
    private static void letsJustSo() {
        DUE.by("each such NIGHT is OFF by no more than that");
        for (int heard = 0; heard < 5; heard++) {
            CushionHall x = new CushionHall();
            x.stuff(10101, 0);
            x.hall(1, 2, 2);
            x.surface(0, 0, 1);
            x.force(Due.read(x, "late 0; leave 0;"));
            x.night(0, 0, 0, heard, 0);
            DUE.is("heard " + heard, x.lets(1005, 0, 0), 100);
            DUE.is("heard " + heard + ", by its LAW", x.lets(1001 * (heard + 1), 0, 0), 100);
            DUE.is("heard " + heard + ", slip 1", x.lets(1005, 1, 0), heard % 4 == 0 ? 200 : 300);
        }
    }

    private static void letsRefuses() {
        CushionHall x = bare();
        DUE.by("LETS (LAWS from .. to as 1000 times from and to): what 0 how many pairs, 1 the least CUSHION, 2 the greatest (NONE: there is none). BAD.");
        for (int bad : BAD_LAWS) DUE.is("lets(" + bad + ", 0, 0)", x.lets(bad, 0, 0), -2);
        for (int bad : new int[] {-1, 10000, MIN, MAX}) DUE.is("lets(1001, " + bad + ", 0)", x.lets(1001, bad, 0), -2);
        for (int bad : new int[] {-1, 3, MIN, MAX}) DUE.is("lets(1001, 0, " + bad + ")", x.lets(1001, 0, bad), -2);
        DUE.is("one law", x.lets(999999, 0, 0), 100);
        DUE.by("LAWS from .. to (told, 1 .. 999, 60 of them at most)");
        DUE.is("60 laws", x.lets(1060, 9999, 0), 6000);
        DUE.is("61 laws", x.lets(1061, 9999, 0), -2);
        DUE.is("the last 60 laws", x.lets(940999, 0, 0), 6000);
        DUE.is("the last 61 laws", x.lets(939999, 0, 0), -2);
        DUE.is("60 laws", x.thrownOut(940999, 9999), -1);
        DUE.is("61 laws", x.thrownOut(939999, 9999), -2);
        DUE.is("60 laws", x.narrows(940999, 9999, 0, 0), 0);
        DUE.is("61 laws", x.narrows(939999, 9999, 0, 0), -2);
    }

    private static void thrownOut() {
        CushionHall x = bare();
        DUE.by("THROWN OUT: the first NIGHT (by numbers) by which, with those ahead, there are none; NONE.");
        DUE.is("no nights", x.thrownOut(20040, 0), -1);
        x.night(0, 0, 0, 3000, 0);
        x.night(0, 0, 0, 0, 0);
        x.night(0, 0, 0, 3000, 0);
        DUE.is("all agree, one is left out", x.thrownOut(20040, 0), -1);
        x.night(0, 0, 0, 5000, 0);
        x.night(0, 0, 0, 9000, 0);
        DUE.is("the first that does not", x.thrownOut(20040, 0), 3);
        DUE.is("a slip that lets it", x.thrownOut(20040, 1000), 4);
        DUE.is("a slip one below", x.thrownOut(20040, 999), 3);
        DUE.is("a slip that lets all", x.thrownOut(20040, 5000), -1);
        DUE.is("the first alone", x.thrownOut(31040, 99), 0);
        x.force(Due.read(x, "late 0; leave many = 0 and (time = 5 * 1000 or 0 = time);"));
        DUE.is("by another rule", x.thrownOut(20040, 0), 4);
        x.force(Due.read(x, "late 0; leave 1;"));
        DUE.is("all are left out", x.thrownOut(20040, 0), -1);
        // by LAW 30 these are due by CUSHIONS of 50, 60 and 50
        CushionHall y = bare();
        for (int heard : new int[] {501, 429, 501}) y.night(1, 0, 10, heard, 0);
        DUE.is("each by some pair, not together", y.thrownOut(30030, 0), 1);
        DUE.is("by a slip of 71", y.thrownOut(30030, 71), 1);
        DUE.is("by a slip of 72", y.thrownOut(30030, 72), -1);
        CushionHall z = bare();
        for (int i = 0; i < 39; i++) z.night(0, 0, 0, 3000, 0);
        DUE.is("39 that agree", z.thrownOut(20040, 0), -1);
        z.night(0, 0, 0, 3100, 0);
        DUE.is("the last of 40", z.thrownOut(20040, 0), 39);
    }

    private static void thrownOutRefuses() {
        CushionHall x = bare();
        DUE.by("THROWN OUT. NONE; BAD.");
        for (int bad : BAD_LAWS) DUE.is("thrownOut(" + bad + ", 0)", x.thrownOut(bad, 0), -2);
        for (int bad : new int[] {-1, 10000, MIN, MAX}) DUE.is("thrownOut(1001, " + bad + ")", x.thrownOut(1001, bad), -2);
        DUE.is("the greatest slip", x.thrownOut(1001, 9999), -1);
    }

    private static void better(String what, CushionHall x, int hall, long straight, long bent, long better) {
        DUE.is(what + ": STRAIGHT", x.better(hall, 0), straight);
        DUE.is(what + ": BENT", x.better(hall, 1), bent);
        DUE.is(what + ": BETTER", x.better(hall, 2), better);
    }

    /** STRAIGHT's sum of NIGHTS with so MANY that were heard so long, told by turns. */
    private static void straight(long sum, int... manyAndHeard) {
        CushionHall x = bare();
        x.force(Due.read(x, "late 0; leave 0;"));
        StringBuilder all = new StringBuilder("STRAIGHT of");
        for (int i = 0; i < manyAndHeard.length; i += 2) {
            x.night(i / 2 % 6, i / 2 % 3, manyAndHeard[i], manyAndHeard[i + 1], 0);
            all.append(" (").append(manyAndHeard[i]).append(", ").append(manyAndHeard[i + 1]).append(")");
        }
        DUE.is(all.toString(), x.better(0, 0), sum);
    }

    private static void straights() {
        DUE.by("the line through two of them (MANY, heard; of all pairs; the lesser number first: heard of the first one, and what the second one's is more times MANY less the first one's, by what the second one's MANY is more, cut) by which all of these are off least");
        straight(0, 0, 10, 2, 11, 1, 10);
        straight(0, 7, 40, 3, 20, 5, 30);
        straight(0, 999, 99999, 0, 0);
        straight(0, 0, 10, 1, 20);
        straight(0, 1, 20, 0, 10);
        straight(0, 5, 7, 6, 7, 9, 7);
        // the lesser number first: by the second one's heard it would be 2
        straight(1, 1, 3, 2, 12, 3, 24);
        // cut toward 0 where it falls: if it were cut downward, 3
        straight(2, 1, 12, 8, 11, 7, 14);
        // what comes to the first one's is cut, not all together: else 2
        straight(3, 3, 29, 8, 26, 7, 24);
        // of all pairs, not the first alone: that one's is 13
        straight(3, 7, 23, 8, 21, 4, 16);
        DUE.by("STRAIGHT: of NIGHTS of a HALL that aren't LEFT OUT, have unlike MANY, the line through two of them");
        // one of like MANY is no second one, but it is off, too
        straight(5, 4, 10, 4, 15, 6, 30);
        DUE.by("each: the line at its MANY less what was heard, without sign); of like ones the first; its sum.");
        // one above and one below: 10 off and 10 off, together 20 by the first two
        straight(20, 0, 100, 9, 100, 2, 110, 7, 90);
        // by far ones: 89999 off at 998, and 999 at the 0 of 999
        straight(90998, 0, 0, 1, 1, 998, 90997, 999, 0, 999, 999);
    }

    private static void better() {
        CushionHall x = bare();
        x.hall(100, 2, 2);
        DUE.by("STATE: there are no two of unlike MANY.");
        better("no nights", x, 0, -3, -3, -3);
        x.night(0, 0, 0, 10, 0);
        better("one night", x, 0, -3, -3, -3);
        x.night(0, 1, 0, 20, 0);
        better("two of like MANY", x, 0, -3, -3, -3);
        x.night(0, 10, 5, 20, 0);
        better("one of unlike MANY elsewhere", x, 0, -3, -3, -3);
        x.night(0, 0, 5, 0, 0);
        better("one of unlike MANY, left out", x, 0, -3, -3, -3);
        DUE.by("Of a HALL: what 0 STRAIGHT's sum, 1 BENT's, 2 BETTER. NO: none such; STATE.");
        for (int bad : new int[] {-1, 2, MIN, MAX}) DUE.is("hall " + bad, x.better(bad, 0), NO);
        for (int bad : new int[] {-1, 3, MIN, MAX}) DUE.is("what " + bad, x.better(0, bad), NO);
        x.night(0, 0, 1, 20, 0);
        DUE.is("two of unlike MANY", x.better(0, 0), 10);
        for (int bad : new int[] {-1, 2, MIN, MAX}) DUE.is("hall " + bad, x.better(bad, 0), NO);
        for (int bad : new int[] {-1, 3, MIN, MAX}) DUE.is("what " + bad, x.better(0, bad), NO);
        DUE.is("the other one has one alone", x.better(1, 2), -3);
        x.force(Due.read(x, "late 0; leave time = 20;"));
        // heard 10 with MANY 0, nothing with MANY 5
        DUE.is("those that aren't LEFT OUT by another RULE", x.better(0, 0), 0);
    }

    private static void bent() {
        CushionHall y = bare();
        DUE.by("BENT: the sum of OFF (without sign) of these by the LAW as it is.");
        y.force(Due.read(y, "late 0; leave 0;"));
        y.night(0, 0, 0, 10, 0);
        y.night(0, 0, 3, 0, 0);
        y.night(0, 2, 1, 5, 0);
        // from the first to the second, at 1: 10 less 3 (a third of 10, cut toward 0) is off by 2
        better("cut toward 0", y, 0, 2, 4890 + 4900 + 4895, -1);
        y.night(1, 0, 3, 900, 0);
        // the CUSHIONED one is due at 490000 by 400, and 1: OFF by 326
        better("with one of like MANY", y, 0, 902, 4890 + 4900 + 4895 + 326, -1);
        y.set(1, 0);
        DUE.is("by the CUSHION as it is", y.better(0, 1), 4890 + 4900 + 4895 + 4001);
        CushionHall z = bare();
        z.night(0, 0, 0, 4800, 0);
        z.night(0, 0, 5, 5000, 0);
        DUE.is("one above, one below", z.better(0, 1), 200);
        z.set(0, 50);
        DUE.is("by another LAW", z.better(0, 1), 200);
        z.set(0, 51);
        DUE.is("by another LAW", z.better(0, 1), 400);
    }

    private static void whichIsBetter() {
        DUE.by("BETTER: 1 if the BENT sum is less, 0 alike, -1 if it is more");
        CushionHall z = bare();
        z.night(0, 0, 0, 4900, 0);
        z.night(0, 0, 5, 4900, 0);
        better("alike", z, 0, 0, 0, 0);
        z.night(0, 0, 9, 4910, 0);
        // from the first to the third, at 5: 4900 and 5 (five ninths of 10, cut)
        better("three", z, 0, 5, 10, -1);
        z.set(0, 50);
        better("by the LAW as it is", z, 0, 5, 290, -1);
        // the third lies 2, 3 or 4 above the line of the others, and it alone is OFF
        for (int above = 2; above <= 4; above++) {
            CushionHall x = bare();
            x.night(0, 0, 0, 4900, 0);
            x.night(0, 0, 2, 4900, 0);
            x.night(0, 0, 1, 4900 + above, 0);
            better("the third is " + above + " above", x, 0, above, above, 0);
            x.night(0, 0, 1, 4900 + above, 0);
            better("two are " + above + " above", x, 0, 2 * above, 2 * above, 0);
        }
        CushionHall y = bare();
        y.night(0, 0, 0, 4900, 0);
        y.night(1, 0, 1, 2451, 0);
        y.night(1, 0, 3, 1226, 0);
        // at 1: 4900 less a third of 3674, cut: 3676; at 0: 2451 and half of 1225, cut; at 3: less 7347
        better("a bent one", y, 0, 1225, 0, 1);
    }

    private static void narrows() {
        CushionHall x = bare();
        x.night(0, 0, 0, 3000, 0);
        DUE.by("with MANY of 0, 20, .. up to a most (0 .. 200)");
        // CUSHIONS 0 and 990; by LAW 49, 490000 by 100 and by 100 + 990 times MANY: 3 is left from 124, 2 from 165 on
        DUE.is("up to 179", x.narrows(20040, 0, 0, 179), 140);
        DUE.is("up to 180", x.narrows(20040, 0, 0, 180), 180);
        DUE.is("up to 20", x.narrows(20040, 0, 2, 20), 20);
        DUE.is("up to 19", x.narrows(20040, 0, 0, 19), 0);
        DUE.is("up to 1", x.narrows(20040, 0, 0, 1), 0);
        DUE.is("up to 0", x.narrows(20040, 0, 0, 0), 0);
        CushionHall y = bare();
        y.set(0, 999);
        // 9990000 by 100 and by 100 + 990 times MANY: 56 from 180 on, 50 from 200 on
        DUE.is("up to 199", y.narrows(20040, 0, 0, 199), 180);
        DUE.is("up to 200", y.narrows(20040, 0, 0, 200), 200);
        DUE.by("is most apart; of like ones the least MANY.");
        DUE.is("180 and 200 are alike", x.narrows(20040, 0, 0, 200), 180);
        x.stuff(505050, 0);
        x.hall(100, 2, 2);
        x.surface(1, 0, 9999);
        // 490000 by 500050 and more: 0 by any CUSHION
        DUE.is("in another HALL", x.narrows(20040, 0, 12, 200), 0);
        DUE.by("and the LAW as it is");
        x.set(0, 1);
        // 10000 by 100 + 990 times MANY: 0 from 11 on
        DUE.is("by the LAW as it is", x.narrows(20040, 0, 0, 200), 20);
        x.night(1, 0, 10, 501, 0);
        DUE.is("one CUSHION only", x.narrows(20040, 0, 0, 200), 0);
        DUE.by("STATE: LETS has none.");
        x.night(0, 0, 0, 9999, 0);
        DUE.is("LETS has none", x.narrows(20040, 0, 0, 200), -3);
        DUE.is("up to 0", x.narrows(20040, 0, 0, 0), -3);
        DUE.is("nights stay", x.count(2), 3);
    }

    /** Between CUSHIONS 50 and 60 most is apart neither at 0 nor far off, and where it is depends on what is EATEN. */
    private static void narrowsBetween() {
        CushionHall x = bare();
        x.night(0, 0, 0, 3000, 0);
        x.night(1, 0, 10, 501, 0);
        x.stuff(2050, 0);
        x.hall(10000, 2, 2);
        x.surface(1, 0, 100);
        DUE.by("of CUSHIONED NIGHTS to come in a HALL, of a PITCH");
        // 49000000 by 100, 2100, 5100 and 50 or 60 times MANY
        int[] eaten = {100, 2100, 5100};
        int[] want = {20, 40, 100};
        for (int pitch = 0; pitch < 3; pitch++) {
            DUE.is("EATEN by " + pitch, x.eaten(1, pitch, 0), eaten[pitch]);
            DUE.is("by pitch " + pitch, x.narrows(20040, 72, 10 + pitch, 200), want[pitch]);
        }
        DUE.by("the one by which DUE by the least and by the greatest CUSHION of LETS");
        DUE.is("the least CUSHION", x.lets(20040, 72, 1), 50);
        DUE.is("the greatest CUSHION", x.lets(20040, 72, 2), 60);
        DUE.is("up to 80", x.narrows(20040, 72, 12, 80), 80);
    }

    private static void narrowsRefuses() {
        CushionHall x = bare();
        x.night(0, 0, 0, 9999, 0);
        DUE.by("NARROWS (where: 10 times HALL and PITCH): MANY. BAD; STATE.");
        for (int slip : new int[] {0, 9999}) {
            for (int bad : BAD_LAWS) DUE.is("narrows(" + bad + ", " + slip + ", 0, 0)", x.narrows(bad, slip, 0, 0), -2);
            for (int bad : new int[] {-1, 3, 9, 13, 20, -10, MIN, MAX}) {
                DUE.is("where " + bad, x.narrows(1001, slip, bad, 20), -2);
            }
            for (int bad : new int[] {-1, 201, MIN, MAX}) DUE.is("most " + bad, x.narrows(1001, slip, 0, bad), -2);
        }
        for (int bad : new int[] {-1, 10000, MIN, MAX}) DUE.is("slip " + bad, x.narrows(1001, bad, 0, 0), -2);
        DUE.is("no slip", x.narrows(1001, 0, 0, 0), -3);
        DUE.is("the greatest slip", x.narrows(1001, 9999, 0, 0), 0);
    }

    public static void main(String[] args) {
        fit();
        cushionsOfFit();
        likeOnes();
        fitRefuses();
        lets();
        letsJustSo();
        letsRefuses();
        thrownOut();
        thrownOutRefuses();
        straights();
        better();
        bent();
        whichIsBetter();
        narrows();
        narrowsBetween();
        narrowsRefuses();
        DUE.end();
    }
}
