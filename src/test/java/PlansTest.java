/** Promises 18 to 23: plans, aims, wrong numbers, echoes, clear halls. */
public final class PlansTest {
    private static final int MIN = Integer.MIN_VALUE, MAX = Integer.MAX_VALUE;
    private static final long NO = CushionHall.NO;
    private static final int[] BAD_WHERES = {-1, 3, 9, 13, 20, -10, MIN, MAX};
    private static final Due DUE = new Due();

    /** A bare hall: 490000 by what is eaten. */
    private static CushionHall bare() {
        CushionHall x = new CushionHall();
        x.hall(100, 4, 4);
        return x;
    }

    private static void plan() {
        CushionHall x = bare();
        x.stuff(10203, 0);
        DUE.by("A PLAN: TIME of a HALL by a PITCH with so many people (0 .. 999; each eats PERSON)");
        DUE.is("nobody", x.plan(0, 0, 0), 4900);
        DUE.is("one", x.plan(0, 0, 1), 890);
        DUE.is("most", x.plan(0, 0, 999), 1);
        for (int bad : new int[] {-1, 1000, MIN, MAX}) DUE.is("people " + bad, x.plan(0, 0, bad), NO);
        x.surface(0, 0, 100);
        for (int pitch = 0; pitch < 3; pitch++) DUE.is("pitch " + pitch, x.plan(0, pitch, 2), 490000 / (1100 + 100 * pitch));
        x.set(2, 0);
        DUE.is("who eats nothing", x.plan(0, 0, 999), 2450);
        x.set(2, 999);
        DUE.is("who eats most", x.plan(0, 0, 1), 490000 / 1199);
        x.set(2, 0);
        x.set(0, 98);
        DUE.is("by another law", x.plan(0, 0, 999), 4900);
        DUE.by("A PLAN. NO: none such.");
        for (int bad : new int[] {-1, 1, MIN, MAX}) DUE.is("hall " + bad, x.plan(bad, 0, 0), NO);
        for (int bad : new int[] {-1, 3, MIN, MAX}) DUE.is("pitch " + bad, x.plan(0, bad, 0), NO);
        CushionHall y = new CushionHall();
        y.hall(99999, 2, 2);
        y.set(0, 999);
        DUE.is("the longest of all", y.plan(0, 0, 0), 99899001);
        y.set(2, 999);
        DUE.is("with most people who eat most", y.plan(0, 0, 999), 9989900100L / 998101);
    }

    private static void aims(String what, CushionHall x, int time, int slip, long coin, long digits) {
        DUE.is(what + ": COIN", x.aim(0, 0, time, slip, 0), coin);
        DUE.is(what + ": STUFFS", x.aim(0, 0, time, slip, 1), digits);
    }

    private static void aim() {
        CushionHall x = bare();
        DUE.by("of all ways those by which the PLAN is off a told time (0 .. 99999) by no more than a told slip (0 .. 9999)");
        aims("no surfaces", x, 4900, 0, 0, 0);
        aims("no surfaces, off by 1", x, 4901, 0, -1, -1);
        aims("no surfaces, off by 1 the other way", x, 4899, 0, -1, -1);
        x.stuff(101010, 5);
        x.stuff(505050, 1);
        x.surface(0, 0, 10);
        x.surface(0, 0, 20);
        // times 1225 (00), 408 (01), 612 (10), 306 (11), for 150, 70, 110, 30
        aims("only 00", x, 1225, 0, 150, 0);
        aims("only 00, off by 9", x, 1234, 9, 150, 0);
        aims("only 00, off by 10", x, 1235, 9, -1, -1);
        aims("only 10", x, 612, 0, 110, 10);
        aims("01 or 10", x, 510, 102, 70, 1);
        DUE.by("AIM (where: 10 times HALL and PITCH): what 0 COIN, 1 STUFFS of SURFACES as digits, SURFACE 0's the highest. NO: none such; FULL; NONE.");
        aims("NONE", x, 510, 101, -1, -1);
        aims("NONE by the longest time", x, 99999, 9999, -1, -1);
        aims("any", x, 0, 9999, 30, 11);
        DUE.is("its own stuffs stay", x.eaten(0, 0, 0), 400);
        DUE.is("with people", x.aim(0, 1, 490000 / 850, 0, 1), 0);
        for (int bad : BAD_WHERES) DUE.is("where " + bad, x.aim(bad, 0, 0, 0, 0), NO);
        for (int bad : new int[] {-1, 1000, MIN, MAX}) DUE.is("people " + bad, x.aim(0, bad, 0, 0, 0), NO);
        for (int bad : new int[] {-1, 100000, MIN, MAX}) DUE.is("time " + bad, x.aim(0, 0, bad, 0, 0), NO);
        for (int bad : new int[] {-1, 10000, MIN, MAX}) DUE.is("slip " + bad, x.aim(0, 0, 0, bad, 0), NO);
        for (int bad : new int[] {-1, 2, MIN, MAX}) DUE.is("what " + bad, x.aim(0, 0, 0, 0, bad), NO);
        DUE.is("most people", x.aim(0, 999, 0, 1, 0), 30);
    }

    private static void leastCoin() {
        CushionHall x = bare();
        x.stuff(101010, 5);
        x.stuff(505050, 1);
        x.surface(0, 0, 10);
        x.surface(0, 0, 20);
        DUE.by("the one with the least COIN (feet times COIN, together); of like ones the first by SURFACES (the least STUFF first)");
        x.stuff(505050, 1);
        aims("11, 12, 21 and 22 are alike", x, 0, 9999, 30, 11);
        x.stuff(0, 0);
        aims("a stuff for nothing", x, 4900, 0, 0, 33);
        x.stuff(0, 0);
        x.surface(0, 0, 0);
        aims("no feet, no coin", x, 4900, 0, 0, 330);
        DUE.by("SURFACE 0's the highest");
        CushionHall y = new CushionHall();
        y.hall(99999, 2, 2);
        for (int eats = 0; eats < 6; eats++) y.stuff(10101 * eats, 9 - eats);
        for (int feet : new int[] {1, 10, 100, 1000, 9999}) y.surface(0, 0, feet);
        y.set(0, 500);
        aims("1 to 5", y, (int) (4999950000L / (100 + 1 + 20 + 300 + 4000 + 49995)), 0, 8 + 70 + 600 + 5000 + 39996, 12345);
        y.set(0, 100);
        aims("5 to 1", y, 999990000 / (100 + 5 + 40 + 300 + 2000 + 9999), 0, 4 + 50 + 600 + 7000 + 79992, 54321);
    }

    private static void aimByPitch() {
        CushionHall x = bare();
        x.hall(100, 4, 4);
        x.stuff(102030, 3);
        x.stuff(302010, 2);
        x.surface(1, 0, 10);
        DUE.by("AIM: each SURFACE of a HALL may be of any STUFF");
        // 200 or 400 is eaten by the low, 300 by the middle, 400 or 200 by the high pitch
        int[][] want = {{30, 0, 20, 1}, {20, 1, -1, -1}, {20, 1, 30, 0}};
        for (int pitch = 0; pitch < 3; pitch++) {
            int[] w = want[pitch];
            int time = pitch == 1 ? 1633 : 2450;
            DUE.is("COIN by pitch " + pitch, x.aim(10 + pitch, 0, time, 0, 0), w[0]);
            DUE.is("STUFF by pitch " + pitch, x.aim(10 + pitch, 0, time, 0, 1), w[1]);
            DUE.is("COIN for 1225 by pitch " + pitch, x.aim(10 + pitch, 0, 1225, 0, 0), w[2]);
            DUE.is("STUFF for 1225 by pitch " + pitch, x.aim(10 + pitch, 0, 1225, 0, 1), w[3]);
        }
    }

    private static void aimFull() {
        CushionHall x = bare();
        DUE.by("at most 5 SURFACES, 6 STUFFS (else FULL). NONE: none does.");
        for (int i = 0; i < 6; i++) x.stuff(101010, 5);
        for (int i = 0; i < 5; i++) x.surface(0, 0, 1);
        x.hall(100, 2, 2);
        DUE.is("five surfaces, six stuffs", x.aim(0, 0, 0, 9999, 0), 25);
        DUE.is("five surfaces, six stuffs, and none does", x.aim(0, 0, 0, 0, 0), -1);
        x.surface(0, 0, 1);
        DUE.is("six surfaces", x.aim(0, 0, 0, 9999, 0), -4);
        DUE.is("six surfaces, and none does", x.aim(0, 0, 0, 0, 0), -4);
        DUE.is("six surfaces, and a bad what", x.aim(0, 0, 0, 9999, 2), NO);
        DUE.is("six surfaces, and a bad slip", x.aim(0, 0, 0, 10000, 0), NO);
        DUE.is("another hall", x.aim(10, 0, 4900, 0, 0), 0);
        x.surface(1, 0, 90);
        DUE.is("another hall, the high pitch", x.aim(12, 0, 490, 0, 0), 450);
        x.stuff(0, 0);
        DUE.is("seven stuffs", x.aim(10, 0, 490, 0, 0), -4);
        x.hall(100, 2, 2);
        DUE.is("seven stuffs, no surfaces", x.aim(20, 0, 4900, 0, 0), -4);
        DUE.is("seven stuffs, and a bad what", x.aim(20, 0, 4900, 0, -1), NO);
        CushionHall y = bare();
        for (int i = 0; i < 6; i++) y.stuff(i == 5 ? 999999 : 505050, i == 5 ? 0 : 9);
        for (int i = 0; i < 5; i++) y.surface(0, 0, i == 2 ? 0 : 1);
        aims("the last of all stuffs", y, 490000 / 496, 0, 0, 55055);
    }

    private static void wrongs(String call, CushionHall x, int people, int time, int what, long number, long out) {
        DUE.is(call, x.wrong(0, people, time, what, 0), number);
        DUE.is(call + ": OUT BY", x.wrong(0, people, time, what, 1), out);
    }

    private static void wrongSizeOrLaw() {
        CushionHall x = bare();
        x.set(0, 50);
        DUE.by("WRONG NUMBER: a PLAN came out as another time: for WHAT 0 SIZE, 1 people, 2 LAW: the number (in its bounds) in place of its own by which the PLAN is nearest to that time; of like ones the least; OUT BY: how far it is then");
        // 50 for each hundred of SIZE, 100 for each of LAW
        wrongs("SIZE", x, 0, 520, 0, 10, 20);
        wrongs("SIZE, of like ones the least", x, 0, 525, 0, 10, 25);
        wrongs("SIZE, one more", x, 0, 526, 0, 11, 24);
        wrongs("SIZE, the least", x, 0, 0, 0, 1, 50);
        wrongs("SIZE, exactly", x, 0, 99950, 0, 1999, 0);
        wrongs("SIZE, beyond", x, 0, 99999, 0, 2000, 1);
        wrongs("LAW, of like ones the least", x, 0, 350, 2, 3, 50);
        wrongs("LAW, one more", x, 0, 351, 2, 4, 49);
        wrongs("LAW, the least", x, 0, 0, 2, 1, 100);
        wrongs("LAW, the greatest", x, 0, 99900, 2, 999, 0);
        wrongs("LAW, beyond the greatest", x, 0, 99999, 2, 999, 99);
        // with two people 1000 is eaten: 5 for each hundred of SIZE, 10 for each of LAW
        wrongs("SIZE, with people", x, 2, 52, 0, 10, 2);
        wrongs("LAW, with people", x, 2, 35, 2, 3, 5);
        wrongs("LAW, some of like time", x, 999, 0, 2, 1, 0);
        DUE.is("LAW stays", x.set(0, 50), 50);
        DUE.is("SIZE stays", x.eaten(0, 0, 1), 5000);
        CushionHall y = new CushionHall();
        y.hall(5, 2, 2);
        y.set(0, 1);
        y.stuff(990000, 0);
        for (int i = 0; i < 6; i++) y.surface(0, 0, 9999);
        // 1 from 59396 on, all the way to the greatest
        wrongs("SIZE, the least of 1", y, 0, 99999, 0, 59396, 99998);
        CushionHall z = new CushionHall();
        z.hall(1, 2, 2);
        z.set(0, 1);
        z.stuff(990000, 0);
        for (int i = 0; i < 3; i++) z.surface(0, 0, 9999);
        z.surface(0, 0, 3367);
        // what is eaten is 3303136: the greatest SIZE alone lasts 3
        wrongs("SIZE, near the greatest", z, 0, 3, 0, 99095, 0);
        DUE.by("Quotients are cut toward 0.");
        CushionHall w = new CushionHall();
        w.stuff(10101, 0);
        w.hall(1, 2, 2);
        w.surface(0, 0, 1);
        w.set(0, 1);
        wrongs("SIZE: 100 by 101 is 0, 200 by 101 is 1", w, 0, 1, 0, 2, 0);
        wrongs("LAW: 100 by 101 is 0, 200 by 101 is 1", w, 0, 1, 2, 2, 0);
    }

    private static void wrongPeople() {
        CushionHall x = bare();
        x.set(0, 50);
        DUE.by("the number (in its bounds) in place of its own by which the PLAN is nearest to that time; of like ones the least");
        // 500000 by 100 and 450 for each: 5000, 909, 500, 344, ..
        wrongs("people, its own does not matter", x, 7, 909, 1, 1, 0);
        wrongs("people, nobody", x, 0, 99999, 1, 0, 94999);
        wrongs("people, the nearer one", x, 0, 705, 1, 1, 204);
        wrongs("people, the other", x, 0, 704, 1, 2, 204);
        wrongs("people, the least of 1", x, 0, 0, 1, 556, 1);
        x.set(2, 1);
        wrongs("people who eat 1", x, 9, 2500, 1, 100, 0);
        wrongs("people who eat 1, the most", x, 9, 0, 1, 999, 454);
        wrongs("people who eat 1, the least of 455", x, 9, 455, 1, 997, 0);
        wrongs("people who eat 1, like ones", x, 9, 4926, 1, 1, 24);
        x.set(2, 0);
        wrongs("people who eat nothing", x, 9, 77, 1, 0, 4923);
        CushionHall z = new CushionHall();
        z.stuff(505050, 0);
        z.hall(1, 2, 2);
        z.surface(0, 0, 1);
        z.set(0, 1);
        for (int person : new int[] {0, 1, 149, 150, 151, 200, 999}) {
            // 100 by 150 and more: 0 by any number
            z.set(2, person);
            wrongs("people who eat " + person + ", all of 0", z, 3, 0, 1, 0, 0);
            wrongs("people who eat " + person + ", all of 0", z, 3, 99999, 1, 0, 99999);
        }
        CushionHall y = new CushionHall();
        y.hall(10000, 2, 2);
        y.set(2, 1);
        // 49000000 by 100 and so many: 44626 by 998, 44585 by 999
        wrongs("the most people", y, 0, 0, 1, 999, 44585);
        wrongs("the most people but one", y, 0, 44606, 1, 998, 20);
        wrongs("the most people", y, 0, 44605, 1, 999, 20);
    }

    private static void wrongRefuses() {
        CushionHall x = bare();
        x.set(0, 50);
        x.stuff(10203, 0);
        x.hall(100, 2, 2);
        x.surface(1, 0, 100);
        DUE.by("WRONG NUMBER (where: 10 times HALL and PITCH): the number (part 0), OUT BY (1). NO: none such.");
        for (int pitch = 0; pitch < 3; pitch++) {
            // 200, 300, 400 is eaten
            DUE.is("by pitch " + pitch + " of another hall", x.wrong(10 + pitch, 0, 500, 0, 0), 20 + 10 * pitch);
            DUE.is("by pitch " + pitch + " of the bare one", x.wrong(pitch, 0, 500, 0, 0), 10);
        }
        for (int bad : BAD_WHERES) DUE.is("where " + bad, x.wrong(bad, 0, 0, 0, 0), NO);
        for (int what = 0; what < 3; what++) {
            for (int bad : new int[] {-1, 1000, MIN, MAX}) DUE.is("people " + bad, x.wrong(0, bad, 0, what, 0), NO);
        }
        for (int bad : new int[] {-1, 100000, MIN, MAX}) DUE.is("time " + bad, x.wrong(0, 0, bad, 0, 0), NO);
        for (int bad : new int[] {-1, 3, MIN, MAX}) DUE.is("what " + bad, x.wrong(0, 0, 0, bad, 0), NO);
        for (int bad : new int[] {-1, 2, MIN, MAX}) DUE.is("part " + bad, x.wrong(0, 0, 0, 0, bad), NO);
        // 10000 for each of LAW by 449650: 22 from 990 on
        DUE.is("most people", x.wrong(0, 999, 99999, 2, 0), 990);
    }

    private static void hears(CushionHall x, int seat, int way, int[] path) {
        int[] met = new int[6];
        for (int n = 1; n <= path.length; n++) {
            met[path[n - 1]]++;
            int sits = 0;
            for (int s = 0; s < 6; s++) {
                if (met[s] > met[sits]) sits = s;
                DUE.is("hears(0, " + seat + ", " + (1000 * way + n) + ", " + s + ")", x.hears(0, seat, 1000 * way + n, s), met[s]);
            }
            DUE.is("echo(0, " + seat + ", " + way + ", " + n + ")", x.echo(0, seat, way, n), sits);
        }
    }

    private static CushionHall small() {
        CushionHall x = new CushionHall();
        x.hall(10, 3, 2);
        return x;
    }

    private static void walls() {
        DUE.by("at a wall (x or y could not go on) it is thrown back in that (in the same step it goes a seat the other way)");
        CushionHall x = small();
        hears(x, 0, 0, new int[] {4, 2, 4, 0, 4, 2});
        hears(x, 0, 1, new int[] {4, 2, 4, 0, 4, 2});
        hears(x, 5, 2, new int[] {1, 3, 1, 5, 1, 3});
        hears(x, 2, 3, new int[] {4, 0, 4, 2, 4, 0});
        CushionHall y = small();
        hears(y, 1, 0, new int[] {5, 1, 3, 1, 5, 1});
        hears(y, 3, 1, new int[] {1, 5, 1, 3, 1, 5});
        hears(y, 4, 2, new int[] {0, 4, 2, 4, 0, 4});
        hears(y, 4, 3, new int[] {0, 4, 2, 4, 0, 4});
        CushionHall z = new CushionHall();
        z.hall(10, 2, 2);
        int[] corners = {3, 2, 1, 0};
        for (int seat = 0; seat < 4; seat++) {
            for (int way = 0; way < 4; way++) DUE.is("in the least hall from " + seat, z.echo(0, seat, way, 1), corners[seat]);
        }
        DUE.by("from a seat, by a way (0 x and y more, 1 x more and y less, 2 both less, 3 x less and y more), seat by seat");
        z.hall(10, 3, 3);
        int[] from = {8, 2, 0, 6};
        for (int way = 0; way < 4; way++) DUE.is("from the midst by way " + way, z.echo(1, 4, way, 1), from[way]);
    }

    private static void sits() {
        CushionHall x = small();
        x.hall(10, 20, 20);
        DUE.by("SITS: the seat that it meets most often in n steps (1 .. 400; the first not counted); of like ones the least");
        DUE.is("one step, not the first seat", x.echo(0, 0, 0, 1), 4);
        DUE.is("two steps: 4 and 2, the least", x.echo(0, 0, 0, 2), 2);
        DUE.is("four steps: 4 twice, 2 and 0", x.echo(0, 0, 0, 4), 4);
        DUE.is("400 steps", x.echo(0, 0, 0, 400), 4);
        DUE.is("401 steps", x.echo(0, 0, 0, 401), -2);
        DUE.is("no steps", x.echo(0, 0, 0, 0), -2);
        DUE.is("the greatest seat of all", x.echo(1, 378, 0, 1), 399);
        // 19 steps down to the far corner, 19 back, ..: those between are met twice as often as the corners
        DUE.is("20 steps", x.echo(1, 0, 0, 20), 378);
        DUE.is("38 steps", x.echo(1, 0, 0, 38), 21);
        DUE.by("ECHO in a HALL (WIDE by DEEP seats; seat s is x = s modulo WIDE, y = s by WIDE");
        CushionHall y = new CushionHall();
        y.hall(10, 20, 2);
        y.hall(10, 2, 20);
        DUE.is("20 by 2, from 19", y.echo(0, 19, 0, 1), 38);
        DUE.is("2 by 20, from 19", y.echo(1, 19, 0, 1), 20);
    }

    private static void hearsAtSeats() {
        CushionHall x = small();
        x.hall(10, 20, 20);
        DUE.by("HEARS: at how many of these steps it is at a told seat.");
        DUE.is("400 steps", x.hears(0, 0, 3400, 4), 200);
        DUE.is("400 steps, at the first seat", x.hears(0, 0, 400, 0), 100);
        DUE.is("one step, at the first seat", x.hears(0, 0, 1, 0), 0);
        DUE.is("at a seat that it never meets", x.hears(0, 0, 400, 1), 0);
        DUE.is("at the greatest seat of all", x.hears(1, 0, 400, 399), 11);
        DUE.is("at seat 0", x.hears(1, 0, 400, 0), 10);
        DUE.is("a step ahead of the greatest seat", x.hears(1, 0, 18, 399), 0);
        DUE.is("at the greatest seat", x.hears(1, 0, 19, 399), 1);
    }

    private static void echoRefuses() {
        CushionHall x = small();
        DUE.by("ECHO: SITS. BAD: HALL, seat, way, n.");
        for (int bad : new int[] {-1, 1, MIN, MAX}) DUE.is("echo in hall " + bad, x.echo(bad, 0, 0, 1), -2);
        for (int bad : new int[] {-1, 6, MIN, MAX}) DUE.is("echo from seat " + bad, x.echo(0, bad, 0, 1), -2);
        for (int bad : new int[] {-1, 4, MIN, MAX}) DUE.is("way " + bad, x.echo(0, 0, bad, 1), -2);
        for (int bad : new int[] {0, -1, 401, MIN, MAX}) DUE.is("steps " + bad, x.echo(0, 0, 0, bad), -2);
        DUE.is("the last seat, the last way", x.echo(0, 5, 3, 1), 1);
        DUE.by("HEARS at a seat (ways as 1000 times the way and n). BAD.");
        for (int bad : new int[] {-1, 1, MIN, MAX}) DUE.is("hears in hall " + bad, x.hears(bad, 0, 1, 0), -2);
        for (int bad : new int[] {-1, 6, MIN, MAX}) {
            DUE.is("hears from seat " + bad, x.hears(0, bad, 1, 0), -2);
            DUE.is("hears at seat " + bad, x.hears(0, 0, 1, bad), -2);
        }
        for (int bad : new int[] {0, -1, 401, 999, 1000, 1401, 2000, 3000, 3401, 4000, 4001, -1001, -999, MIN, MAX}) {
            DUE.is("ways " + bad, x.hears(0, 0, bad, 0), -2);
        }
        for (int way = 0; way < 4; way++) DUE.is("one step by way " + way, x.hears(0, 0, 1000 * way + 1, 4), 1);
    }

    private static void clear(int eats, int feet, int people, int want) {
        CushionHall x = bare();
        x.stuff(eats, 0);
        x.surface(0, 0, feet);
        DUE.is("clear by " + eats + ", " + feet + " feet, " + people, x.clear(0, people), want);
    }

    private static void clear() {
        DUE.by("CLEAR of a HALL with people: whether TIMES of PITCHES 1 and 2 are 180 at most and that of 0 not above the double of that of 1 (1, 0)");
        // 490000 by 2707 is 181, by 2708 is 180
        clear(990199, 2607, 0, 0);
        clear(990199, 2608, 0, 1);
        clear(999901, 2607, 0, 0);
        clear(999901, 2608, 0, 1);
        // 180 by the middle pitch: 360 by the low one, then 361
        clear(377799, 34, 0, 1);
        clear(336999, 38, 0, 0);
        clear(132727, 100, 0, 1);
        clear(122727, 100, 0, 0);
        clear(132627, 100, 0, 0);
        clear(132726, 100, 0, 0);
        clear(132727, 97, 0, 1);
        clear(0, 0, 5, 0);
        clear(0, 0, 6, 1);
        clear(122727, 100, 2, 1);
        DUE.by("CLEAR. BAD.");
        CushionHall x = bare();
        for (int bad : new int[] {-1, 1, MIN, MAX}) DUE.is("hall " + bad, x.clear(bad, 0), -2);
        for (int bad : new int[] {-1, 1000, MIN, MAX}) DUE.is("people " + bad, x.clear(0, bad), -2);
        DUE.is("most people", x.clear(0, 999), 1);
    }

    public static void main(String[] args) {
        plan();
        aim();
        leastCoin();
        aimByPitch();
        aimFull();
        wrongSizeOrLaw();
        wrongPeople();
        wrongRefuses();
        walls();
        sits();
        hearsAtSeats();
        echoRefuses();
        clear();
        DUE.end();
    }
}
