/** Promises 24 to 26: an image, all laid back, and how many there are. */
public final class ImagesTest {
    private static final long NO = CushionHall.NO;
    private static final Due DUE = new Due();

    private static CushionHall twoHalls() {
        CushionHall x = new CushionHall();
        x.stuff(101010, 0);
        x.stuff(202020, 0);
        x.hall(100, 4, 4);
        x.hall(100, 4, 4);
        x.surface(0, 0, 10);
        x.surface(0, 0, 100);
        x.night(0, 0, 0, 100, 0);
        x.night(1, 1, 5, 200, 0);
        return x;
    }

    private static void numbersDue(CushionHall x, int law, int cushion, int person, int coat) {
        DUE.is("LAW", x.set(0, law), law);
        DUE.is("CUSHION", x.set(1, cushion), cushion);
        DUE.is("PERSON", x.set(2, person), person);
        DUE.is("COAT", x.set(3, coat), coat);
    }

    private static void laidBack() {
        CushionHall x = twoHalls();
        DUE.by("All is as in THE IMAGE: how many NIGHTS. STATE: there is none.");
        DUE.is("back without an image", x.back(), -3);
        DUE.is("NIGHTS", x.count(2), 2);
        x.set(0, 1);
        x.set(1, 2);
        x.set(2, 3);
        x.set(3, 4);
        x.force(Due.read(x, "late 7; leave 0;"));
        DUE.by("AN IMAGE is kept: how many NIGHTS.");
        DUE.is("image", x.image(), 2);
        for (int what = 0; what < 4; what++) x.set(what, 500);
        x.force(0);
        x.cover(0, 0, 1);
        x.surface(0, 1, 1000);
        x.surface(1, 1, 1000);
        x.stuff(303030, 0);
        x.hall(100, 4, 4);
        x.surface(2, 2, 7);
        x.night(0, 20, 0, 300, 0);
        Due.read(x, "late 8; leave 0;");
        Due.feed(x, "abc");
        x.sheet(0, 2, 5);
        DUE.by("AN IMAGE keeps LAW, CUSHION, PERSON, COAT, THE RULE, SURFACES of all HALLS, how many NIGHTS");
        DUE.is("back", x.back(), 2);
        numbersDue(x, 1, 2, 3, 4);
        DUE.is("THE RULE", x.count(5), 1);
        DUE.is("SURFACES of hall 0", x.eaten(0, 0, 0), 10 * 110 + 100);
        DUE.is("SURFACES of hall 1", x.eaten(1, 0, 0), 100);
        DUE.is("STUFFS stay", x.count(0), 3);
        DUE.is("TEXTS stay", x.count(3), 3);
        DUE.is("THE TAPE stays", x.count(4), 3);
        DUE.is("SHEETS stay", x.cell(0, 4, 1), 1);
        DUE.by("(back: those that came since are gone; HALLS that came since stay as they are)");
        DUE.is("HALLS stay", x.count(1), 3);
        DUE.is("a HALL that came since stays as it is", x.eaten(2, 0, 0), 30 * 7 + 100);
        DUE.is("a NIGHT that came since is gone", x.told(2, 0), NO);
        DUE.is("taken", x.taken(2, 0), -11);
        DUE.is("a NIGHT that was stays", x.told(1, 4), 200);
        DUE.is("NIGHTS", x.count(2), 2);
        DUE.is("the next NIGHT", x.night(0, 20, 0, 301, 0), 2);
        DUE.is("the next SURFACE", x.surface(0, 0, 1), 2);
        DUE.is("the next SURFACE", x.surface(1, 0, 1), 0);
        DUE.is("the next SURFACE there", x.surface(2, 0, 1), 1);
        DUE.by("All is as in THE IMAGE: how many NIGHTS.");
        DUE.is("the image stays, too", x.back(), 2);
        DUE.is("SURFACES of hall 0", x.eaten(0, 0, 0), 10 * 110 + 100);
        DUE.is("SURFACES of the HALL that came since", x.eaten(2, 0, 0), 30 * 7 + 10 + 100);
        DUE.is("at once again", x.back(), 2);
    }

    private static void imageAgain() {
        CushionHall x = twoHalls();
        x.image();
        x.set(0, 77);
        x.cover(0, 1, 1);
        x.surface(1, 0, 5);
        x.night(2, 2, 2, 2, 2);
        x.hall(100, 2, 2);
        x.surface(2, 0, 1);
        DUE.by("AN IMAGE is kept: how many NIGHTS.");
        DUE.is("a later image", x.image(), 3);
        x.set(0, 78);
        x.cover(0, 1, 0);
        x.cover(1, 0, 1);
        x.cover(2, 0, 1);
        x.surface(2, 0, 50);
        DUE.by("All is as in THE IMAGE: how many NIGHTS.");
        DUE.is("back", x.back(), 3);
        DUE.is("LAW", x.set(0, 1), 77);
        DUE.is("SURFACES of hall 0", x.eaten(0, 0, 0), 100 + 2000 + 100);
        DUE.is("SURFACES of hall 1", x.eaten(1, 0, 0), 50 + 100);
        DUE.is("SURFACES of the HALL that came between", x.eaten(2, 0, 0), 10 + 100);
        CushionHall y = new CushionHall();
        DUE.is("image of nothing", y.image(), 0);
        y.hall(100, 4, 4);
        y.night(0, 0, 0, 1, 0);
        DUE.is("back to nothing", y.back(), 0);
        DUE.is("but the HALL stays", y.count(1), 1);
        CushionHall z = twoHalls();
        z.image();
        DUE.is("nothing came since", z.back(), 2);
        DUE.is("NIGHTS", z.count(2), 2);
    }

    /** What is full when THE IMAGE is kept, and what became full since. */
    private static void fullOnes() {
        CushionHall x = twoHalls();
        for (int i = 2; i < 6; i++) x.surface(0, 1, i);
        for (int i = 2; i < 40; i++) x.night(0, 0, i, 100, 0);
        DUE.by("AN IMAGE is kept: how many NIGHTS.");
        DUE.is("image of 40", x.image(), 40);
        for (int i = 0; i < 6; i++) x.surface(1, 1, 1000);
        for (int i = 0; i < 6; i++) x.cover(0, i, 1);
        for (int i = 2; i < 6; i++) x.hall(100, 2, 2);
        DUE.is("FULL", x.surface(1, 1, 1), -4);
        DUE.by("All is as in THE IMAGE: how many NIGHTS.");
        DUE.is("back to 40", x.back(), 40);
        DUE.is("the last NIGHT", x.told(39, 3), 39);
        DUE.is("FULL", x.night(0, 0, 0, 0, 0), -4);
        DUE.is("FULL", x.surface(0, 0, 1), -4);
        DUE.is("six SURFACES", x.eaten(0, 0, 0), 100 + 10 * 110 + 20 * (2 + 3 + 4 + 5));
        DUE.is("no SURFACES", x.eaten(1, 0, 0), 100);
        DUE.is("one has room", x.surface(1, 1, 1), 0);
        CushionHall y = twoHalls();
        y.image();
        for (int i = 2; i < 40; i++) y.night(0, 0, i, 100, 0);
        DUE.is("FULL", y.night(0, 0, 0, 0, 0), -4);
        DUE.is("back from 40", y.back(), 2);
        DUE.is("one has room", y.night(0, 0, 7, 0, 0), 2);
        DUE.is("its MANY", y.told(2, 3), 7);
        DUE.is("one behind it", y.told(3, 3), NO);
    }

    private static void counts() {
        CushionHall x = twoHalls();
        x.night(0, 0, 0, 0, 0);
        Due.read(x, "late 7; leave 0;");
        x.feed(5, 0);
        DUE.by("How many: 0 STUFFS, 1 HALLS, 2 NIGHTS, 3 TEXTS, 4 bytes of THE TAPE, 5 THE RULE, 6 NIGHTS that are LEFT OUT. BAD.");
        long[] want = {2, 2, 3, 2, 5, 0, 1};
        for (int what = 0; what <= 6; what++) DUE.is("count(" + what + ")", x.count(what), want[what]);
        x.force(1);
        DUE.is("count(5)", x.count(5), 1);
        DUE.is("none is LEFT OUT", x.count(6), 0);
        for (int bad : new int[] {-1, 7, Integer.MIN_VALUE, Integer.MAX_VALUE}) DUE.is("count(" + bad + ")", x.count(bad), -2);
        CushionHall y = twoHalls();
        y.force(Due.read(y, "late 0; leave 1;"));
        DUE.is("all are LEFT OUT", y.count(6), 2);
        for (int i = 2; i < 40; i++) y.night(0, 0, i, 100, 0);
        DUE.is("40 are LEFT OUT", y.count(6), 40);
    }

    public static void main(String[] args) {
        laidBack();
        imageAgain();
        fullOnes();
        counts();
        DUE.end();
    }
}
