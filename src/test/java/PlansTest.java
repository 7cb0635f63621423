/** Promises 18 to 23: plans, aims, wrong numbers, echoes, clear halls. */
public final class PlansTest {
    private static final int MIN = Integer.MIN_VALUE, MAX = Integer.MAX_VALUE;
    private static final int[] BAD_WHERES = {-1, 3, 9, 13, 20, -10, MIN, MAX};
    private static final Due DUE = new Due();

    /** A bare hall: 490000 by what is eaten. */
    private static CushionHall bare() {
        CushionHall x = new CushionHall();
        x.hall(100, 4, 4);
        return x;
    }

    private static void plan() {
        CushionHall x = bare();
        x.stuff(10203, 0);
        DUE.is("nobody", x.plan(0, 0, 0), 4900);
        DUE.is("two", x.plan(0, 0, 2), 490);
        DUE.is("most", x.plan(0, 0, 999), 1);
        x.surface(0, 0, 100);
        for (int pitch = 0; pitch < 3; pitch++) DUE.is("pitch " + pitch, x.plan(0, pitch, 2), 490000 / (1100 + 100 * pitch));
        x.set(2, 0);
        DUE.is("who eats nothing", x.plan(0, 0, 999), 2450);
        x.set(0, 98);
        DUE.is("by another law", x.plan(0, 0, 999), 4900);
        for (int bad : new int[] {-1, 1, MIN, MAX}) DUE.is("hall " + bad, x.plan(bad, 0, 0), CushionHall.NO);
        for (int bad : new int[] {-1, 3, MIN, MAX}) DUE.is("pitch " + bad, x.plan(0, bad, 0), CushionHall.NO);
        for (int bad : new int[] {-1, 1000, MIN, MAX}) DUE.is("people " + bad, x.plan(0, 0, bad), CushionHall.NO);
    }

    private static void aims(String what, CushionHall x, int time, int slip, long coin, long digits) {
        DUE.is(what + ": COIN", x.aim(0, 0, time, slip, 0), coin);
        DUE.is(what + ": STUFFS", x.aim(0, 0, time, slip, 1), digits);
    }

    private static void aim() {
        CushionHall x = bare();
        aims("no surfaces", x, 4900, 0, 0, 0);
        aims("no surfaces, off by 1", x, 4901, 0, -1, -1);
        x.stuff(101010, 5);
        x.stuff(505050, 1);
        x.surface(0, 0, 10);
        x.surface(0, 0, 20);
        // times 1225 (00), 408 (01), 612 (10), 306 (11), for 150, 70, 110, 30
        aims("only 00", x, 1225, 0, 150, 0);
        aims("only 10", x, 612, 0, 110, 10);
        aims("01 or 10", x, 510, 102, 70, 1);
        aims("neither", x, 510, 101, -1, -1);
        aims("any", x, 0, 9999, 30, 11);
        DUE.is("its own stuffs stay", x.eaten(0, 0, 0), 400);
        DUE.is("with people", x.aim(0, 1, 490000 / 850, 0, 1), 0);
        x.stuff(505050, 1);
        aims("of like ones the first", x, 0, 9999, 30, 11);
        x.stuff(0, 0);
        aims("a stuff for nothing", x, 4900, 0, 0, 33);
        x.stuff(0, 0);
        x.surface(0, 0, 0);
        aims("no feet, no coin", x, 4900, 0, 0, 330);
        x.surface(0, 0, 1);
        x.surface(0, 0, 1);
        x.stuff(999999, 0);
        aims("five surfaces, six stuffs", x, 490000 / 3268, 0, 0, 55055);
        for (int bad : BAD_WHERES) DUE.is("where " + bad, x.aim(bad, 0, 0, 0, 0), CushionHall.NO);
        for (int bad : new int[] {-1, 1000, MIN, MAX}) DUE.is("people " + bad, x.aim(0, bad, 0, 0, 0), CushionHall.NO);
        for (int bad : new int[] {-1, 100000, MIN, MAX}) DUE.is("time " + bad, x.aim(0, 0, bad, 0, 0), CushionHall.NO);
        for (int bad : new int[] {-1, 10000, MIN, MAX}) DUE.is("slip " + bad, x.aim(0, 0, 0, bad, 0), CushionHall.NO);
        for (int bad : new int[] {-1, 2, MIN, MAX}) DUE.is("what " + bad, x.aim(0, 0, 0, 0, bad), CushionHall.NO);
    }

    private static void aimFull() {
        CushionHall x = bare();
        for (int i = 0; i < 6; i++) x.stuff(101010, 5);
        for (int i = 0; i < 5; i++) x.surface(0, 0, 1);
        x.hall(100, 2, 2);
        DUE.is("five surfaces, six stuffs", x.aim(0, 0, 0, 9999, 0), 25);
        x.surface(0, 0, 1);
        DUE.is("six surfaces", x.aim(0, 0, 0, 9999, 0), -4);
        DUE.is("six surfaces, and a bad what", x.aim(0, 0, 0, 9999, 2), CushionHall.NO);
        DUE.is("another hall", x.aim(10, 0, 4900, 0, 0), 0);
        x.surface(1, 0, 90);
        DUE.is("another hall, the high pitch", x.aim(12, 0, 490, 0, 0), 450);
        x.stuff(0, 0);
        DUE.is("seven stuffs", x.aim(10, 0, 490, 0, 0), -4);
    }

    private static void wrongs(String call, CushionHall x, int people, int time, int what, long number, long out) {
        DUE.is(call, x.wrong(0, people, time, what, 0), number);
        DUE.is(call + ": OUT BY", x.wrong(0, people, time, what, 1), out);
    }

    private static void wrong() {
        CushionHall x = bare();
        x.set(0, 50);
        // 50 for each hundred of SIZE, 100 for each of LAW
        wrongs("SIZE", x, 0, 520, 0, 10, 20);
        wrongs("SIZE, of like ones the least", x, 0, 525, 0, 10, 25);
        wrongs("SIZE, one more", x, 0, 526, 0, 11, 24);
        wrongs("SIZE, the least", x, 0, 0, 0, 1, 50);
        wrongs("SIZE, exactly", x, 0, 99950, 0, 1999, 0);
        wrongs("SIZE, beyond", x, 0, 99999, 0, 2000, 1);
        wrongs("LAW, of like ones the least", x, 0, 350, 2, 3, 50);
        wrongs("LAW, one more", x, 0, 351, 2, 4, 49);
        wrongs("LAW, the least", x, 0, 0, 2, 1, 100);
        wrongs("LAW, the greatest", x, 0, 99900, 2, 999, 0);
        wrongs("LAW, beyond the greatest", x, 0, 99999, 2, 999, 99);
        // with two people 1000 is eaten: 5 for each hundred of SIZE, 10 for each of LAW
        wrongs("SIZE, with people", x, 2, 52, 0, 10, 2);
        wrongs("LAW, with people", x, 2, 35, 2, 3, 5);
        wrongs("LAW, some of like time", x, 999, 0, 2, 1, 0);
        // 500000 by 100 and 450 for each: 5000, 909, 500, 344, ..
        wrongs("people, its own does not matter", x, 7, 909, 1, 1, 0);
        wrongs("people, nobody", x, 0, 99999, 1, 0, 94999);
        wrongs("people, the nearer one", x, 0, 705, 1, 1, 204);
        wrongs("people, the other", x, 0, 704, 1, 2, 204);
        wrongs("people, the least of 1", x, 0, 0, 1, 556, 1);
        x.set(2, 1);
        wrongs("people who eat 1", x, 9, 2500, 1, 100, 0);
        x.set(2, 0);
        wrongs("people who eat nothing", x, 9, 77, 1, 0, 4923);
        x.stuff(10203, 0);
        x.hall(100, 2, 2);
        x.surface(1, 0, 100);
        DUE.is("by the high pitch of another hall", x.wrong(12, 0, 500, 0, 0), 40);
        for (int bad : BAD_WHERES) DUE.is("where " + bad, x.wrong(bad, 0, 0, 0, 0), CushionHall.NO);
        for (int bad : new int[] {-1, 1000, MIN, MAX}) DUE.is("people " + bad, x.wrong(0, bad, 0, 1, 0), CushionHall.NO);
        for (int bad : new int[] {-1, 100000, MIN, MAX}) DUE.is("time " + bad, x.wrong(0, 0, bad, 0, 0), CushionHall.NO);
        for (int bad : new int[] {-1, 3, MIN, MAX}) DUE.is("what " + bad, x.wrong(0, 0, 0, bad, 0), CushionHall.NO);
        for (int bad : new int[] {-1, 2, MIN, MAX}) DUE.is("part " + bad, x.wrong(0, 0, 0, 0, bad), CushionHall.NO);
        CushionHall y = new CushionHall();
        y.hall(5, 2, 2);
        y.set(0, 1);
        y.stuff(990000, 0);
        for (int i = 0; i < 6; i++) y.surface(0, 0, 9999);
        wrongs("SIZE, the least of 1", y, 0, 99999, 0, 59396, 99998);
    }

    private static void hears(CushionHall x, int seat, int way, int[] path) {
        int[] met = new int[6];
        for (int n = 1; n <= path.length; n++) {
            met[path[n - 1]]++;
            int sits = 0;
            for (int s = 0; s < 6; s++) {
                if (met[s] > met[sits]) sits = s;
                DUE.is("hears(0, " + seat + ", " + (1000 * way + n) + ", " + s + ")", x.hears(0, seat, 1000 * way + n, s), met[s]);
            }
            DUE.is("echo(0, " + seat + ", " + way + ", " + n + ")", x.echo(0, seat, way, n), sits);
        }
    }

    private static void echo() {
        CushionHall x = new CushionHall();
        x.hall(10, 3, 2);
        hears(x, 0, 0, new int[] {4, 2, 4, 0, 4, 2});
        hears(x, 0, 1, new int[] {4, 2, 4, 0, 4, 2});
        hears(x, 5, 2, new int[] {1, 3, 1, 5, 1, 3});
        hears(x, 2, 3, new int[] {4, 0, 4, 2, 4, 0});
        hears(x, 1, 0, new int[] {5, 1, 3, 1, 5, 1});
        hears(x, 3, 1, new int[] {1, 5, 1, 3, 1, 5});
        hears(x, 4, 2, new int[] {0, 4, 2, 4, 0, 4});
        hears(x, 4, 3, new int[] {0, 4, 2, 4, 0, 4});
        x.hall(10, 3, 3);
        int[] corners = {8, 2, 0, 6};
        for (int way = 0; way < 4; way++) DUE.is("from the midst by way " + way, x.echo(1, 4, way, 1), corners[way]);
        DUE.is("most steps", x.echo(0, 0, 0, 400), 4);
        DUE.is("most steps", x.hears(0, 0, 3400, 4), 200);
        for (int bad : new int[] {-1, 2, MIN, MAX}) {
            DUE.is("echo in hall " + bad, x.echo(bad, 0, 0, 1), -2);
            DUE.is("hears in hall " + bad, x.hears(bad, 0, 1, 0), -2);
        }
        for (int bad : new int[] {-1, 6, MIN, MAX}) {
            DUE.is("echo from seat " + bad, x.echo(0, bad, 0, 1), -2);
            DUE.is("hears from seat " + bad, x.hears(0, bad, 1, 0), -2);
            DUE.is("hears at seat " + bad, x.hears(0, 0, 1, bad), -2);
        }
        for (int bad : new int[] {-1, 4, MIN, MAX}) DUE.is("way " + bad, x.echo(0, 0, bad, 1), -2);
        for (int bad : new int[] {0, -1, 401, MIN, MAX}) DUE.is("steps " + bad, x.echo(0, 0, 0, bad), -2);
        for (int bad : new int[] {0, -1, 401, 1000, 1401, 4001, -1001, -999, MIN, MAX}) DUE.is("ways " + bad, x.hears(0, 0, bad, 0), -2);
    }

    private static void clear(int eats, int feet, int people, int want) {
        CushionHall x = bare();
        x.stuff(eats, 0);
        x.surface(0, 0, feet);
        DUE.is("clear by " + eats + ", " + feet + " feet, " + people, x.clear(0, people), want);
    }

    private static void clear() {
        clear(132727, 100, 0, 1);
        clear(122727, 100, 0, 0);
        clear(132627, 100, 0, 0);
        clear(132726, 100, 0, 0);
        clear(132727, 97, 0, 1);
        clear(0, 0, 5, 0);
        clear(0, 0, 6, 1);
        clear(122727, 100, 2, 1);
        CushionHall x = bare();
        for (int bad : new int[] {-1, 1, MIN, MAX}) DUE.is("hall " + bad, x.clear(bad, 0), -2);
        for (int bad : new int[] {-1, 1000, MIN, MAX}) DUE.is("people " + bad, x.clear(0, bad), -2);
        DUE.is("most people", x.clear(0, 999), 1);
    }

    public static void main(String[] args) {
        plan();
        aim();
        aimFull();
        wrong();
        echo();
        clear();
        DUE.end();
    }
}
