/** Promises 1 to 7: a new object, stuffs, halls, surfaces, the numbers, what is eaten. */
public final class HallsTest {
    private static final int MIN = Integer.MIN_VALUE, MAX = Integer.MAX_VALUE;
    private static final Due DUE = new Due();

    private static void newObject() {
        CushionHall x = new CushionHall();
        for (int what = 0; what <= 6; what++) DUE.is("new: count(" + what + ")", x.count(what), what == 3 ? 1 : 0);
        DUE.is("new: eaten", x.eaten(0, 0, 0), CushionHall.NO);
        DUE.is("new: told", x.told(0, 0), CushionHall.NO);
        DUE.is("new: taken", x.taken(0, 0), -11);
        DUE.is("new: back", x.back(), -3);
        for (int s = 0; s <= 3; s++) DUE.is("new: cell of sheet " + s, x.cell(s, 0, 0), -11);
        DUE.is("new: LAW", x.set(0, 1), 49);
        DUE.is("new: CUSHION", x.set(1, 0), 100);
        DUE.is("new: PERSON", x.set(2, 0), 450);
        DUE.is("new: COAT", x.set(3, 0), 30);
    }

    private static void stuffs() {
        CushionHall x = new CushionHall();
        for (int bad : new int[] {-1, 1000000, MIN, MAX}) DUE.is("stuff(" + bad + ", 0)", x.stuff(bad, 0), -2);
        for (int bad : new int[] {-1, 100, MIN, MAX}) DUE.is("stuff(0, " + bad + ")", x.stuff(0, bad), -2);
        DUE.is("count after BAD", x.count(0), 0);
        for (int i = 0; i < 8; i++) DUE.is("stuff", x.stuff(i % 2 == 0 ? 999999 : 0, i % 2 == 0 ? 0 : 99), i);
        DUE.is("ninth stuff", x.stuff(0, 0), -4);
        DUE.is("bad ninth stuff", x.stuff(0, 100), -2);
        DUE.is("count", x.count(0), 8);
    }

    private static void halls() {
        CushionHall x = new CushionHall();
        for (int bad : new int[] {0, -1, 100000, MIN, MAX}) DUE.is("hall(" + bad + ", 2, 2)", x.hall(bad, 2, 2), -2);
        for (int bad : new int[] {1, 21, 0, MIN, MAX}) {
            DUE.is("hall(1, " + bad + ", 2)", x.hall(1, bad, 2), -2);
            DUE.is("hall(1, 2, " + bad + ")", x.hall(1, 2, bad), -2);
        }
        DUE.is("least hall", x.hall(1, 2, 2), 0);
        DUE.is("greatest hall", x.hall(99999, 20, 20), 1);
        for (int i = 2; i < 6; i++) DUE.is("hall", x.hall(5, 3, 4), i);
        DUE.is("seventh hall", x.hall(5, 3, 4), -4);
        DUE.is("bad seventh hall", x.hall(0, 3, 4), -2);
        DUE.is("count", x.count(1), 6);
    }

    private static void surfaces() {
        CushionHall x = new CushionHall();
        DUE.is("surface without hall", x.surface(0, 0, 1), -2);
        x.hall(10, 2, 2);
        DUE.is("surface without stuff", x.surface(0, 0, 1), -2);
        x.stuff(123456, 7);
        x.stuff(10203, 7);
        x.hall(20, 2, 2);
        for (int bad : new int[] {-1, 2, MIN, MAX}) {
            DUE.is("surface(" + bad + ", 0, 1)", x.surface(bad, 0, 1), -2);
            DUE.is("surface(0, " + bad + ", 1)", x.surface(0, bad, 1), -2);
        }
        for (int bad : new int[] {-1, 10000, MIN, MAX}) DUE.is("feet " + bad, x.surface(0, 0, bad), -2);
        DUE.is("eaten after BAD", x.eaten(0, 0, 0), 100);
        DUE.is("surface of no feet", x.surface(0, 0, 0), 0);
        DUE.is("surface of most feet", x.surface(0, 0, 9999), 1);
        DUE.is("surface of the other hall", x.surface(1, 1, 5), 0);
        DUE.is("eaten", x.eaten(0, 0, 0), 9999 * 12 + 100);
        for (int i = 2; i < 6; i++) DUE.is("surface", x.surface(0, 1, 1), i);
        DUE.is("seventh surface", x.surface(0, 1, 1), -4);
        DUE.is("bad seventh surface", x.surface(0, 2, 1), -2);
        DUE.is("eaten", x.eaten(0, 2, 0), 9999 * 56 + 4 * 3 + 100);
    }

    private static void covers() {
        CushionHall x = new CushionHall();
        x.stuff(123456, 7);
        x.stuff(10203, 7);
        x.hall(10, 2, 2);
        x.hall(10, 2, 2);
        x.surface(0, 0, 10);
        for (int bad : new int[] {-1, 2, MIN, MAX}) {
            DUE.is("cover(" + bad + ", 0, 1)", x.cover(bad, 0, 1), -2);
            DUE.is("cover(0, " + bad + ", 1)", x.cover(0, bad, 1), -2);
            DUE.is("cover(0, 0, " + bad + ")", x.cover(0, 0, bad), -2);
        }
        DUE.is("cover of no surface", x.cover(0, 1, 1), -2);
        DUE.is("cover in a bare hall", x.cover(1, 0, 1), -2);
        DUE.is("eaten ahead", x.eaten(0, 1, 0), 440);
        DUE.is("cover", x.cover(0, 0, 1), 0);
        DUE.is("eaten behind", x.eaten(0, 1, 0), 120);
        DUE.is("cover by its own", x.cover(0, 0, 1), 1);
        DUE.is("cover back", x.cover(0, 0, 0), 1);
    }

    private static void numbers() {
        CushionHall x = new CushionHall();
        for (int what = 0; what < 4; what++) {
            int was = x.set(what, 5);
            for (int bad : new int[] {-1, 1000, MIN, MAX}) DUE.is("set(" + what + ", " + bad + ")", x.set(what, bad), -2);
            DUE.is("greatest " + what + " (was " + was + ")", x.set(what, 999), 5);
            DUE.is("least " + what, x.set(what, what == 0 ? 1 : 0), 999);
            DUE.is("zero " + what, x.set(what, 0), what == 0 ? -2 : 0);
        }
        for (int bad : new int[] {-1, 4, MIN, MAX}) DUE.is("set(" + bad + ", 5)", x.set(bad, 5), -2);
    }

    private static void whatIsEaten() {
        CushionHall x = new CushionHall();
        x.stuff(123456, 0);
        x.hall(10, 2, 2);
        x.surface(0, 0, 10);
        for (int pitch = 0; pitch < 3; pitch++) {
            DUE.is("eaten by " + pitch, x.eaten(0, pitch, 0), 220 * (pitch + 1));
            DUE.is("time by " + pitch, x.eaten(0, pitch, 1), 49000 / (220 * (pitch + 1)));
        }
        x.set(0, 7);
        DUE.is("time by another law", x.eaten(0, 0, 1), 31);
        for (int bad : new int[] {-1, 1, MIN, MAX}) DUE.is("hall " + bad, x.eaten(bad, 0, 0), CushionHall.NO);
        for (int bad : new int[] {-1, 3, MIN, MAX}) DUE.is("pitch " + bad, x.eaten(0, bad, 0), CushionHall.NO);
        for (int bad : new int[] {-1, 2, MIN, MAX}) DUE.is("what " + bad, x.eaten(0, 0, bad), CushionHall.NO);
        x.hall(99999, 2, 2);
        x.set(0, 999);
        DUE.is("longest time", x.eaten(1, 0, 1), 99899001);
    }

    public static void main(String[] args) {
        newObject();
        stuffs();
        halls();
        surfaces();
        covers();
        numbers();
        whatIsEaten();
        DUE.end();
    }
}
