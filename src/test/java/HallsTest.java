/** Promises 1 to 7: a new object, stuffs, halls, surfaces, the numbers, what is eaten. */
public final class HallsTest {
    private static final int MIN = Integer.MIN_VALUE, MAX = Integer.MAX_VALUE;
    private static final long NO = CushionHall.NO;
    private static final Due DUE = new Due();

    private static void constants() {
        DUE.by("NONE is -1; NO, where a long is answered, -4611686018427387904.");
        DUE.is("NONE", CushionHall.NONE, -1);
        DUE.is("NO", CushionHall.NO, -4611686018427387904L);
        DUE.by("BAD (-2: a number is none such or not as told), STATE (-3), FULL (-4)");
        DUE.is("BAD", CushionHall.BAD, -2);
        DUE.is("STATE", CushionHall.STATE, -3);
        DUE.is("FULL", CushionHall.FULL, -4);
    }

    private static void newObject() {
        CushionHall x = new CushionHall();
        DUE.by("No STUFFS, HALLS, NIGHTS.");
        for (int what = 0; what <= 6; what++) DUE.is("count(" + what + ")", x.count(what), what == 3 ? 1 : 0);
        DUE.is("surface", x.surface(0, 0, 1), -2);
        DUE.is("cover", x.cover(0, 0, 0), -2);
        DUE.is("eaten", x.eaten(0, 0, 0), NO);
        DUE.is("night", x.night(0, 0, 0, 1, 0), -2);
        DUE.is("told", x.told(0, 0), NO);
        DUE.is("fit", x.fit(7, 9, 0), 7);
        DUE.is("lets", x.lets(7009, 0, 0), 300);
        DUE.is("thrownOut", x.thrownOut(7009, 0), -1);
        DUE.is("better", x.better(0, 0), NO);
        DUE.is("narrows", x.narrows(7009, 0, 0, 0), -2);
        DUE.is("plan", x.plan(0, 0, 0), NO);
        DUE.is("aim", x.aim(0, 0, 0, 0, 0), NO);
        DUE.is("wrong", x.wrong(0, 0, 0, 0, 0), NO);
        DUE.is("echo", x.echo(0, 0, 0, 1), -2);
        DUE.is("hears", x.hears(0, 0, 1, 0), -2);
        DUE.is("clear", x.clear(0, 0), -2);
        DUE.is("taken", x.taken(0, 0), -11);
        CushionHall y = new CushionHall();
        y.hall(10, 2, 2);
        DUE.is("another object", x.count(1), 0);
    }

    private static void stuffs() {
        CushionHall x = new CushionHall();
        DUE.by("STUFFS (8 at most, numbered from 0)");
        for (int i = 0; i < 8; i++) DUE.is("stuff", x.stuff(i % 2 == 0 ? 999999 : 0, i % 2 == 0 ? 0 : 99), i);
        DUE.is("ninth stuff", x.stuff(0, 0), -4);
        DUE.is("count", x.count(0), 8);
        DUE.by("A STUFF (EAT by PITCHES as 10000 times that of 0, 100 times that of 1, and that of 2): its number. BAD; FULL.");
        DUE.is("bad ninth stuff", x.stuff(0, 100), -2);
        DUE.is("bad ninth stuff", x.stuff(1000000, 0), -2);
        CushionHall y = new CushionHall();
        y.stuff(123456, 0);
        y.hall(10, 2, 2);
        y.surface(0, 0, 1);
        for (int pitch = 0; pitch < 3; pitch++) DUE.is("pitch " + pitch, y.eaten(0, pitch, 0), 100 + 12 + 22 * pitch);
    }

    private static void eatAndCoin() {
        DUE.by("EAT so many hundredths (0 .. 99) of open window of a foot, by PITCH");
        int[] eats = {0, 990000, 9900, 99, 999999};
        int[][] want = {{0, 0, 0}, {99, 0, 0}, {0, 99, 0}, {0, 0, 99}, {99, 99, 99}};
        CushionHall x = new CushionHall();
        for (int bad : new int[] {-1, 1000000, MIN, MAX}) DUE.is("stuff(" + bad + ", 0)", x.stuff(bad, 0), -2);
        for (int i = 0; i < 5; i++) {
            DUE.is("stuff(" + eats[i] + ", 0)", x.stuff(eats[i], 0), i);
            x.hall(10, 2, 2);
            x.surface(i, i, 1);
            for (int p = 0; p < 3; p++) DUE.is("pitch " + p + " of " + eats[i], x.eaten(i, p, 0), 100 + want[i][p]);
        }
        DUE.by("COIN of a foot (0 .. 99)");
        CushionHall y = new CushionHall();
        for (int bad : new int[] {-1, 100, MIN, MAX}) DUE.is("stuff(0, " + bad + ")", y.stuff(0, bad), -2);
        DUE.is("count after BAD", y.count(0), 0);
        y.stuff(10101, 99);
        y.hall(100, 2, 2);
        y.surface(0, 0, 100);
        DUE.is("the greatest COIN", y.aim(0, 0, 0, 9999, 0), 9900);
        y.stuff(10101, 0);
        DUE.is("the least COIN", y.aim(0, 0, 0, 9999, 0), 0);
    }

    private static void halls() {
        CushionHall x = new CushionHall();
        DUE.by("SIZE (1 .. 99999 hundreds of cubic feet)");
        for (int bad : new int[] {0, -1, 100000, MIN, MAX}) DUE.is("hall(" + bad + ", 2, 2)", x.hall(bad, 2, 2), -2);
        DUE.is("least size", x.hall(1, 2, 2), 0);
        DUE.is("its TIME", x.eaten(0, 0, 1), 49);
        DUE.is("greatest size", x.hall(99999, 20, 20), 1);
        DUE.is("its TIME", x.eaten(1, 0, 1), 49 * 99999);
        DUE.by("WIDE and DEEP (2 .. 20 seats each)");
        for (int bad : new int[] {1, 21, 0, -2, MIN, MAX}) {
            DUE.is("hall(1, " + bad + ", 2)", x.hall(1, bad, 2), -2);
            DUE.is("hall(1, 2, " + bad + ")", x.hall(1, 2, bad), -2);
        }
        DUE.is("count after BAD", x.count(1), 2);
        DUE.is("seat 3 of the least", x.echo(0, 3, 0, 1), 0);
        DUE.is("seat 4 of the least", x.echo(0, 4, 0, 1), -2);
        DUE.is("seat 399 of the greatest", x.echo(1, 399, 0, 1), 378);
        DUE.is("seat 400 of the greatest", x.echo(1, 400, 0, 1), -2);
        DUE.is("widest, least deep", x.hall(1, 20, 2), 2);
        DUE.is("its last seat", x.echo(2, 39, 0, 1), 18);
        DUE.is("deepest, least wide", x.hall(1, 2, 20), 3);
        DUE.is("its last seat", x.echo(3, 39, 0, 1), 36);
        DUE.by("HALLS (6 at most, numbered from 0)");
        for (int i = 4; i < 6; i++) DUE.is("hall", x.hall(5, 3, 4), i);
        DUE.is("seventh hall", x.hall(5, 3, 4), -4);
        DUE.is("count", x.count(1), 6);
        DUE.by("A HALL: its number. BAD; FULL.");
        DUE.is("bad seventh hall", x.hall(0, 3, 4), -2);
        DUE.is("bad seventh hall", x.hall(5, 3, 21), -2);
    }

    private static void surfaces() {
        CushionHall x = new CushionHall();
        DUE.by("A SURFACE of a HALL: its number there. BAD; FULL.");
        DUE.is("surface without hall", x.surface(0, 0, 1), -2);
        x.hall(10, 2, 2);
        DUE.is("surface without stuff", x.surface(0, 0, 1), -2);
        x.stuff(123456, 7);
        x.stuff(10203, 7);
        x.hall(20, 2, 2);
        for (int bad : new int[] {-1, 2, MIN, MAX}) {
            DUE.is("surface(" + bad + ", 0, 1)", x.surface(bad, 0, 1), -2);
            DUE.is("surface(0, " + bad + ", 1)", x.surface(0, bad, 1), -2);
        }
        DUE.by("of so many feet (0 .. 9999) of a STUFF");
        for (int bad : new int[] {-1, 10000, MIN, MAX}) DUE.is("feet " + bad, x.surface(0, 0, bad), -2);
        DUE.is("eaten after BAD", x.eaten(0, 0, 0), 100);
        DUE.is("surface of no feet", x.surface(0, 0, 0), 0);
        DUE.is("no feet eat nothing", x.eaten(0, 0, 0), 100);
        DUE.is("surface of most feet", x.surface(0, 0, 9999), 1);
        DUE.is("eaten", x.eaten(0, 0, 0), 9999 * 12 + 100);
        DUE.by("SURFACES (6 at most each, numbered from 0)");
        DUE.is("surface of the other hall", x.surface(1, 1, 5), 0);
        for (int i = 2; i < 6; i++) DUE.is("surface", x.surface(0, 1, 1), i);
        DUE.is("seventh surface", x.surface(0, 1, 1), -4);
        DUE.is("eaten", x.eaten(0, 2, 0), 9999 * 56 + 4 * 3 + 100);
        DUE.is("the other hall has room", x.surface(1, 1, 5), 1);
        DUE.by("Refusals, the first that the call's words name");
        DUE.is("bad seventh surface", x.surface(0, 2, 1), -2);
        DUE.is("bad seventh surface", x.surface(0, 1, 10000), -2);
    }

    private static void covers() {
        CushionHall x = new CushionHall();
        x.stuff(123456, 7);
        x.stuff(10203, 7);
        x.hall(10, 2, 2);
        x.hall(10, 2, 2);
        x.surface(0, 0, 10);
        DUE.by("A SURFACE is of another STUFF: which it was. BAD.");
        for (int bad : new int[] {-1, 2, MIN, MAX}) {
            DUE.is("cover(" + bad + ", 0, 1)", x.cover(bad, 0, 1), -2);
            DUE.is("cover(0, " + bad + ", 1)", x.cover(0, bad, 1), -2);
            DUE.is("cover(0, 0, " + bad + ")", x.cover(0, 0, bad), -2);
        }
        DUE.is("cover of no surface", x.cover(0, 1, 1), -2);
        DUE.is("cover in a bare hall", x.cover(1, 0, 1), -2);
        DUE.is("eaten ahead", x.eaten(0, 1, 0), 440);
        DUE.is("cover", x.cover(0, 0, 1), 0);
        DUE.is("eaten behind", x.eaten(0, 1, 0), 120);
        DUE.is("cover by its own", x.cover(0, 0, 1), 1);
        DUE.is("cover back", x.cover(0, 0, 0), 1);
        for (int i = 1; i < 6; i++) x.surface(0, 0, i);
        DUE.is("the last SURFACE", x.cover(0, 5, 1), 0);
        DUE.is("eaten", x.eaten(0, 0, 0), 100 + 12 * (10 + 1 + 2 + 3 + 4) + 5);
        DUE.is("one more", x.cover(0, 6, 1), -2);
    }

    /** One of the numbers: what it is at first, its bounds, and what stays behind a refusal. */
    private static void number(int what, int first, int least) {
        CushionHall x = new CushionHall();
        for (int bad : new int[] {least - 1, -1, 1000, MIN, MAX}) DUE.is("set(" + what + ", " + bad + ")", x.set(what, bad), -2);
        DUE.is("set(" + what + ", 999)", x.set(what, 999), first);
        DUE.is("set(" + what + ", " + least + ")", x.set(what, least), 999);
        DUE.is("set(" + what + ", 1000)", x.set(what, 1000), -2);
        DUE.is("set(" + what + ", 5)", x.set(what, 5), least);
        int[] firsts = {49, 100, 450, 30};
        for (int other = 0; other < 4; other++) {
            if (other != what) DUE.is("set(" + other + ", 7)", x.set(other, 7), firsts[other]);
        }
        DUE.is("set(" + what + ", 6)", x.set(what, 6), 5);
    }

    private static void numbers() {
        DUE.by("LAW (1 .. 999; 49 at first)");
        number(0, 49, 1);
        DUE.by("CUSHION: what one eats (hundredths of feet, 0 .. 999; 100 at first)");
        number(1, 100, 0);
        DUE.by("PERSON likewise (450 at first)");
        number(2, 450, 0);
        DUE.by("COAT (30 at first)");
        number(3, 30, 0);
        DUE.by("LAW (what 0), CUSHION (1), PERSON (2), COAT (3) become v: what was. BAD.");
        CushionHall x = new CushionHall();
        for (int bad : new int[] {-1, 4, MIN, MAX}) DUE.is("set(" + bad + ", 5)", x.set(bad, 5), -2);
        int[] firsts = {49, 100, 450, 30};
        for (int what = 0; what < 4; what++) DUE.is("set(" + what + ", 5)", x.set(what, 5), firsts[what]);
    }

    private static void eaten() {
        CushionHall x = new CushionHall();
        x.stuff(123456, 0);
        x.hall(10, 2, 2);
        DUE.by("EATEN in a HALL by a PITCH (hundredths of feet): of all its SURFACES feet times EAT, and 100");
        for (int pitch = 0; pitch < 3; pitch++) DUE.is("no SURFACES, by " + pitch, x.eaten(0, pitch, 0), 100);
        x.surface(0, 0, 10);
        for (int pitch = 0; pitch < 3; pitch++) DUE.is("one, by " + pitch, x.eaten(0, pitch, 0), 220 * (pitch + 1));
        CushionHall y = new CushionHall();
        y.stuff(999999, 0);
        y.hall(99999, 2, 2);
        for (int i = 0; i < 6; i++) y.surface(0, 0, 9999);
        DUE.is("most of all", y.eaten(0, 2, 0), 6 * 9999 * 99 + 100);
        DUE.by("TIME (hundredths of a second): SIZE times 100 times LAW (1 .. 999; 49 at first) by what is EATEN");
        DUE.is("TIME of most of all", y.eaten(0, 2, 1), 489995100 / 5939506);
        for (int pitch = 0; pitch < 3; pitch++) {
            DUE.is("TIME by " + pitch, x.eaten(0, pitch, 1), 49000 / (220 * (pitch + 1)));
        }
        x.set(0, 7);
        DUE.is("TIME by another law", x.eaten(0, 0, 1), 31);
        x.hall(99999, 2, 2);
        x.set(0, 999);
        DUE.is("longest TIME, of a bare hall", x.eaten(1, 0, 1), 99899001);
        y.set(0, 1);
        y.hall(1, 2, 2);
        y.surface(1, 0, 1);
        DUE.by("Quotients are cut toward 0.");
        DUE.is("100 by 199", y.eaten(1, 0, 1), 0);
        y.set(0, 2);
        DUE.is("200 by 199", y.eaten(1, 0, 1), 1);
    }

    private static void eatenRefuses() {
        CushionHall x = new CushionHall();
        x.hall(10, 2, 2);
        DUE.by("EATEN in a HALL by a PITCH (what 0), TIME (1). NO: none such.");
        for (int bad : new int[] {-1, 1, MIN, MAX}) DUE.is("hall " + bad, x.eaten(bad, 0, 0), NO);
        for (int bad : new int[] {-1, 3, MIN, MAX}) DUE.is("pitch " + bad, x.eaten(0, bad, 0), NO);
        for (int bad : new int[] {-1, 2, MIN, MAX}) DUE.is("what " + bad, x.eaten(0, 0, bad), NO);
        DUE.is("what 0", x.eaten(0, 2, 0), 100);
        DUE.is("what 1", x.eaten(0, 2, 1), 490);
    }

    public static void main(String[] args) {
        constants();
        newObject();
        stuffs();
        eatAndCoin();
        halls();
        surfaces();
        covers();
        numbers();
        eaten();
        eatenRefuses();
        DUE.end();
    }
}
