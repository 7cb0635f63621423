/** Promises 24 to 26: an image, all laid back, and how many there are. */
public final class ImagesTest {
    private static final Due DUE = new Due();

    private static CushionHall twoHalls() {
        CushionHall x = new CushionHall();
        x.stuff(101010, 0);
        x.stuff(202020, 0);
        x.hall(100, 4, 4);
        x.hall(100, 4, 4);
        x.surface(0, 0, 10);
        x.surface(0, 0, 100);
        x.night(0, 0, 0, 100, 0);
        x.night(1, 1, 5, 200, 0);
        return x;
    }

    private static void numbersDue(CushionHall x, int law, int cushion, int person, int coat) {
        DUE.is("LAW", x.set(0, law), law);
        DUE.is("CUSHION", x.set(1, cushion), cushion);
        DUE.is("PERSON", x.set(2, person), person);
        DUE.is("COAT", x.set(3, coat), coat);
    }

    private static void laidBack() {
        CushionHall x = twoHalls();
        DUE.is("back without an image", x.back(), -3);
        x.set(0, 1);
        x.set(1, 2);
        x.set(2, 3);
        x.set(3, 4);
        x.force(Due.read(x, "late 7; leave 0;"));
        DUE.is("image", x.image(), 2);
        for (int what = 0; what < 4; what++) x.set(what, 500);
        x.force(0);
        x.cover(0, 0, 1);
        x.surface(0, 1, 1000);
        x.surface(1, 1, 1000);
        x.stuff(303030, 0);
        x.hall(100, 4, 4);
        x.surface(2, 2, 7);
        x.night(0, 20, 0, 300, 0);
        Due.read(x, "late 8; leave 0;");
        Due.feed(x, "abc");
        x.sheet(0, 2, 5);
        DUE.is("back", x.back(), 2);
        numbersDue(x, 1, 2, 3, 4);
        DUE.is("THE RULE", x.count(5), 1);
        DUE.is("SURFACES of hall 0", x.eaten(0, 0, 0), 10 * 110 + 100);
        DUE.is("SURFACES of hall 1", x.eaten(1, 0, 0), 100);
        DUE.is("a HALL that came since stays as it is", x.eaten(2, 0, 0), 30 * 7 + 100);
        DUE.is("a NIGHT that came since is gone", x.told(2, 0), CushionHall.NO);
        DUE.is("a NIGHT that was stays", x.told(1, 4), 200);
        DUE.is("STUFFS stay", x.count(0), 3);
        DUE.is("HALLS stay", x.count(1), 3);
        DUE.is("NIGHTS", x.count(2), 2);
        DUE.is("TEXTS stay", x.count(3), 3);
        DUE.is("THE TAPE stays", x.count(4), 3);
        DUE.is("SHEETS stay", x.cell(0, 4, 1), 1);
        DUE.is("the next NIGHT", x.night(0, 20, 0, 301, 0), 2);
        DUE.is("the next SURFACE", x.surface(0, 0, 1), 2);
        DUE.is("the next SURFACE", x.surface(1, 0, 1), 0);
        DUE.is("the image stays, too", x.back(), 2);
        DUE.is("SURFACES of hall 0", x.eaten(0, 0, 0), 10 * 110 + 100);
    }

    private static void imageAgain() {
        CushionHall x = twoHalls();
        x.image();
        x.set(0, 77);
        x.cover(0, 1, 1);
        x.surface(1, 0, 5);
        x.night(2, 2, 2, 2, 2);
        DUE.is("a later image", x.image(), 3);
        x.set(0, 78);
        x.cover(0, 1, 0);
        x.cover(1, 0, 1);
        DUE.is("back", x.back(), 3);
        DUE.is("LAW", x.set(0, 1), 77);
        DUE.is("SURFACES of hall 0", x.eaten(0, 0, 0), 100 + 2000 + 100);
        DUE.is("SURFACES of hall 1", x.eaten(1, 0, 0), 50 + 100);
        CushionHall y = new CushionHall();
        DUE.is("image of nothing", y.image(), 0);
        y.hall(100, 4, 4);
        y.night(0, 0, 0, 1, 0);
        DUE.is("back to nothing", y.back(), 0);
        DUE.is("but the HALL stays", y.count(1), 1);
    }

    private static void counts() {
        CushionHall x = twoHalls();
        x.night(0, 0, 0, 0, 0);
        Due.read(x, "late 7; leave 0;");
        x.feed(5, 0);
        long[] want = {2, 2, 3, 2, 5, 0, 1};
        for (int what = 0; what <= 6; what++) DUE.is("count(" + what + ")", x.count(what), want[what]);
        x.force(1);
        DUE.is("count(5)", x.count(5), 1);
        DUE.is("count(6)", x.count(6), 0);
        for (int bad : new int[] {-1, 7, Integer.MIN_VALUE, Integer.MAX_VALUE}) DUE.is("count(" + bad + ")", x.count(bad), -2);
    }

    public static void main(String[] args) {
        laidBack();
        imageAgain();
        counts();
        DUE.end();
    }
}
