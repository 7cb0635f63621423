import java.util.ArrayList;
import java.util.List;
import java.util.function.Supplier;
import java.util.function.ToLongFunction;

/** Of two like objects one is refused a call, or only asked something: both answer alike from then on. */
public final class RefusalsTest {
    private static final long NO = CushionHall.NO;
    private static final Due DUE = new Due();

    private static void cells(CushionHall x, int sheet, int sort, int... cells) {
        x.sheet(sheet, sort, cells.length);
        for (int i = 0; i < cells.length; i++) x.cell(sheet, i, cells[i]);
    }

    /** Some of everything, behind an image of less; SHEET 3 is missing. */
    private static CushionHall some() {
        CushionHall x = new CushionHall();
        x.stuff(102030, 7);
        x.stuff(302010, 3);
        x.hall(960, 6, 5);
        x.hall(500, 3, 4);
        x.surface(0, 0, 100);
        x.surface(0, 1, 50);
        x.surface(1, 1, 30);
        for (int kind = 0; kind < 6; kind++) x.night(kind, kind % 3, 5 * kind, 100 * (kind + 1), kind);
        x.image();
        x.set(0, 51);
        x.set(1, 90);
        x.set(2, 400);
        x.set(3, 20);
        x.surface(1, 0, 40);
        x.cover(0, 0, 1);
        x.hall(77, 2, 2);
        x.night(1, 10, 8, 300, 1);
        x.night(0, 10, 0, 0, 2);
        x.force(Due.read(x, "late tired; leave time = 0;"));
        cells(x, 0, 2, 0, 1, 2, 3, 4, 1, 12, 13, 140, 5);
        cells(x, 1, 2, 2, 2, 22, 23, 4, 3, 2, 33, 34, 5);
        cells(x, 2, 1, 4, 10, 200, 300, 1, 5, 11, 210, 310, 2);
        Due.feed(x, "late 3; leave");
        return x;
    }

    /** As much of everything as there may be, behind an image of it. */
    private static CushionHall full() {
        CushionHall x = new CushionHall();
        for (int i = 0; i < 8; i++) x.stuff(10101 * (i + 1), i);
        for (int i = 0; i < 6; i++) x.hall(100 * (i + 1), 20, 20);
        for (int h = 0; h < 6; h++) for (int i = 0; i < 6; i++) x.surface(h, i, 10 * h + i);
        for (int i = 0; i < 40; i++) x.night(i % 6, 10 * (i % 6) + i % 3, i, 100 + i, i % 10);
        x.image();
        for (int i = 1; i < 6; i++) Due.read(x, "late " + i + ";leave 0;");
        x.force(5);
        for (int i = 0; i < 20; i++) x.feed(8, 0x2020202020202020L);
        return x;
    }

    /** What it answers of all that it holds, first as it is, then laid back. */
    private static List<Long> looks(CushionHall x) {
        List<Long> all = new ArrayList<>();
        state(x, all);
        for (int n = 0; n < 40; n++) for (int what = 8; what <= 10; what += 2) all.add(x.told(n, what));
        all.add(x.aim(10, 0, 0, 9999, 0));
        all.add((long) x.text());
        for (int h = 0; h < 6; h++) for (int s = 0; s < 6; s++) all.add((long) x.cover(h, s, 0));
        all.add((long) x.back());
        state(x, all);
        for (int s = 0; s < 4; s++) {
            for (int sort = 0; sort < 3; sort++) {
                all.add((long) x.nights(s, sort, 0, 2));
                int last = x.count(2) - 1;
                for (int what = 0; what < 6; what++) all.add(x.told(last, what));
            }
        }
        return all;
    }

    private static void state(CushionHall x, List<Long> all) {
        for (int what = 0; what <= 6; what++) all.add((long) x.count(what));
        for (int h = 0; h < 6; h++) for (int pitch = 0; pitch < 3; pitch++) all.add(x.eaten(h, pitch, 0));
        for (int n = 0; n < 40; n++) all.add(x.told(n, 3));
        int[] was = new int[4];
        for (int what = 0; what < 4; what++) {
            was[what] = x.set(what, 5);
            all.add((long) was[what]);
        }
        for (int what = 0; what < 4; what++) x.set(what, was[what]);
    }

    private static void same(String call, Supplier<CushionHall> make, ToLongFunction<CushionHall> calls, long want) {
        CushionHall x = make.get();
        CushionHall y = make.get();
        DUE.is(call, calls.applyAsLong(x), want);
        List<Long> got = looks(x);
        List<Long> due = looks(y);
        for (int i = 0; i < due.size(); i++) DUE.is("look " + i + " behind " + call, got.get(i), due.get(i));
    }

    private static void some(String call, long want, ToLongFunction<CushionHall> calls) {
        same(call, RefusalsTest::some, calls, want);
    }

    private static void full(String call, long want, ToLongFunction<CushionHall> calls) {
        same(call, RefusalsTest::full, calls, want);
    }

    private static void badOfHalls() {
        some("stuff of bad eats", -2, x -> x.stuff(1000000, 0));
        some("stuff of bad coin", -2, x -> x.stuff(0, 100));
        some("hall of bad size", -2, x -> x.hall(0, 2, 2));
        some("hall too wide", -2, x -> x.hall(1, 21, 2));
        some("hall too deep", -2, x -> x.hall(1, 2, 21));
        some("surface of no hall", -2, x -> x.surface(3, 0, 1));
        some("surface of no stuff", -2, x -> x.surface(0, 2, 1));
        some("surface of bad feet", -2, x -> x.surface(0, 0, 10000));
        some("cover in no hall", -2, x -> x.cover(3, 0, 0));
        some("cover of no surface", -2, x -> x.cover(0, 2, 0));
        some("cover by no stuff", -2, x -> x.cover(0, 0, 2));
        some("set of no such", -2, x -> x.set(4, 1));
        for (int what = 0; what < 4; what++) {
            int w = what;
            some("set too great, " + w, -2, x -> x.set(w, 1000));
            some("set too small, " + w, -2, x -> x.set(w, w == 0 ? 0 : -1));
        }
        some("eaten in no hall", NO, x -> x.eaten(3, 0, 0));
        some("count of no such", -2, x -> x.count(7));
    }

    private static void badOfNights() {
        some("night of no kind", -2, x -> x.night(6, 0, 0, 0, 0));
        some("night of no pitch", -2, x -> x.night(0, 3, 0, 0, 0));
        some("night of no hall", -2, x -> x.night(0, 30, 0, 0, 0));
        some("night of too many", -2, x -> x.night(0, 0, 1000, 0, 0));
        some("night heard too long", -2, x -> x.night(0, 0, 0, 100000, 0));
        some("night too tired", -2, x -> x.night(0, 0, 0, 0, 10));
        some("told of none", NO, x -> x.told(8, 0));
        some("feed of none", -2, x -> x.feed(0, 0x20));
        some("feed of nine", -2, x -> x.feed(9, 0x20));
        some("force of no text", -2, x -> x.force(2));
        some("taken for no kind", -2, x -> x.taken(0, 6));
        some("taken of none", -11, x -> x.taken(8, 0));
        some("taken for another kind", -13, x -> x.taken(0, 1));
        some("fit of bad laws", NO, x -> x.fit(1, 61, 0));
        some("lets of bad laws", -2, x -> x.lets(1061, 0, 0));
        some("thrownOut of a bad slip", -2, x -> x.thrownOut(1060, 10000));
        some("better in no hall", NO, x -> x.better(3, 0));
        some("better without nights", -3, x -> x.better(2, 0));
        some("narrows of a bad most", -2, x -> x.narrows(1060, 0, 0, 201));
        some("narrows by none", -3, x -> x.narrows(1001, 0, 0, 200));
    }

    private static void badOfPlans() {
        some("plan in no hall", NO, x -> x.plan(3, 0, 0));
        some("aim of a bad slip", NO, x -> x.aim(0, 0, 0, 10000, 0));
        some("aim that none meets", -1, x -> x.aim(0, 0, 99999, 0, 1));
        some("wrong of a bad what", NO, x -> x.wrong(0, 0, 0, 3, 0));
        some("echo of a bad way", -2, x -> x.echo(0, 0, 4, 1));
        some("hears at no seat", -2, x -> x.hears(0, 0, 1, 30));
        some("clear of too many", -2, x -> x.clear(0, 1000));
    }

    private static void badOfSheets() {
        DUE.by("the host's: -11 nothing where something is asked, -12 a place outside, -13 a thing of another sort or KIND, -14 a size below 0.");
        some("sheet of none", -2, x -> x.sheet(4, 0, 1));
        some("sheet of no sort", -2, x -> x.sheet(0, 3, 1));
        some("sheet too long", -2, x -> x.sheet(0, 0, 41));
        some("sheet below 0", -14, x -> x.sheet(0, 0, -1));
        some("cell of none", -2, x -> x.cell(4, 0, 1));
        some("cell of a missing one", -11, x -> x.cell(3, 0, 1));
        some("cell ahead", -12, x -> x.cell(0, -1, 9));
        some("cell behind", -12, x -> x.cell(0, 10, 9));
        some("copy to none", -2, x -> x.copy(0, 0, 4, 0, 1));
        some("copy to a missing one", -11, x -> x.copy(0, 0, 3, 0, 1));
        some("copy of unlike sorts", -13, x -> x.copy(0, 0, 2, 0, 5));
        some("copy from outside", -12, x -> x.copy(0, 6, 1, 0, 5));
        some("copy to outside", -12, x -> x.copy(0, 0, 1, 6, 5));
        some("copy of less than none", -12, x -> x.copy(0, 5, 1, 5, -1));
        some("nights of no sheet", -2, x -> x.nights(4, 0, 0, 1));
        some("nights of too many", -2, x -> x.nights(0, 2, 0, 9));
        some("nights of another sort", -13, x -> x.nights(0, 1, 0, 1));
        some("nights of a missing one", -11, x -> x.nights(3, 1, 0, 1));
        some("nights from outside", -12, x -> x.nights(0, 2, 6, 1));
        some("nights of none", 0, x -> x.nights(0, 2, 0, 0));
    }

    private static void fullOnes() {
        DUE.by("Refusals, the first that the call's words name; they change nothing");
        full("stuff", -4, x -> x.stuff(1, 1));
        full("hall", -4, x -> x.hall(1, 2, 2));
        for (int h = 0; h < 6; h++) {
            int hall = h;
            full("surface of " + h, -4, x -> x.surface(hall, 0, 1));
        }
        full("night", -4, x -> x.night(0, 0, 0, 1, 0));
        full("feed", -4, x -> x.feed(1, 0x20));
        full("text", -4, x -> x.text());
        full("aim", -4, x -> x.aim(0, 0, 0, 9999, 0));
        same("back without an image", CushionHall::new, x -> x.back(), -3);
    }

    private static void asks() {
        some("fit", 1, x -> x.fit(1, 60, 2) > 0 ? 1 : 0);
        some("lets", 1, x -> x.lets(1060, 9999, 0) > 0 ? 1 : 0);
        some("thrownOut", 0, x -> x.thrownOut(1001, 0));
        some("better", 1, x -> x.better(0, 1) > 0 ? 1 : 0);
        some("narrows", 1, x -> x.narrows(1060, 9999, 2, 200) >= 0 ? 1 : 0);
        some("aim", 1, x -> x.aim(0, 0, 0, 9999, 1) > 0 ? 1 : 0);
        for (int what = 0; what < 3; what++) {
            int w = what;
            some("wrong " + what, 1, x -> x.wrong(0, 1, 100, w, 0) > 0 ? 1 : 0);
        }
        some("echo", 1, x -> x.echo(0, 0, 0, 400) > 0 ? 1 : 0);
        some("clear", 0, x -> x.clear(0, 0));
        some("sheet 3, which is missing, becomes missing", 1, x -> x.sheet(3, -1, 0));
    }

    public static void main(String[] args) {
        DUE.by("Refusals, the first that the call's words name; they change nothing");
        badOfHalls();
        badOfNights();
        badOfPlans();
        badOfSheets();
        fullOnes();
        asks();
        DUE.end();
    }
}
