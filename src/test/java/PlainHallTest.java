import java.lang.reflect.Method;
import java.util.HashMap;
import java.util.Map;
import java.util.Random;

/** Runs of calls by lot (with fixed seeds), each answer compared with PlainHall's: all promises, in all orders. */
public final class PlainHallTest {
    private static final String[] CALLS = {
        "stuff eats coin", "hall size side side", "surface hall stuff feet", "cover hall surface stuff",
        "set what4 number", "eaten hall pitch what2", "night kind where many time tired", "told night told",
        "feed n8 bytes", "text", "force text", "fit from to what3", "lets laws slip what3", "thrownOut laws slip",
        "better hall what3", "narrows laws slip where most", "plan hall pitch people",
        "aim where people time slip what2", "wrong where people time what3 what2", "echo hall seat way steps",
        "hears hall seat ways seat", "clear hall people", "image", "back", "count what7", "sheet sheet sort cells",
        "cell sheet place cell", "copy sheet place sheet place cells", "nights sheet sort place n8",
        "taken night kind"};
    private static final String[] WORDS = {
        "late", "leave", "or", "and", "not", "kind", "many", "pitch", "hall", "time", "tired", "lat", "x", "(", ")",
        ";", "+", "-", "*", "<", "=", "0", "7", "12", "9999", "10000", "?", "\n", "A", "\u00e9"};

    private final Map<String, Method> tried = new HashMap<>();
    private final Map<String, Method> plain = new HashMap<>();
    private final Due due = new Due();
    private Random lot = new Random(0);
    /** Whether a run begins with as much of everything as there may be, and asks for all of it. */
    private boolean full = false;

    private PlainHallTest() {
        for (Method m : CushionHall.class.getDeclaredMethods()) tried.put(m.getName(), m);
        for (Method m : PlainHall.class.getDeclaredMethods()) {
            if (!m.isSynthetic()) plain.put(m.getName(), m);
        }
    }

    private int pick(int... of) { return of[lot.nextInt(of.length)]; }

    private int upTo(int most) { return lot.nextInt(most + 1); }

    private int edge(int least, int most) {
        int at = lot.nextInt(20);
        if (at == 0) return least - 1;
        if (at == 1) return most + 1;
        if (at == 2) return least;
        if (at == 3) return most;
        return least + lot.nextInt(most - least + 1);
    }

    private int laws() {
        int from = edge(1, lot.nextBoolean() ? 80 : 999);
        int to = from + edge(0, lot.nextInt(8) == 0 ? 61 : 20);
        return from * 1000 + to;
    }

    private int argument(String sort) {
        if (lot.nextInt(120) == 0) return pick(Integer.MIN_VALUE, Integer.MAX_VALUE, -1, -13, 1000, 100000, lot.nextInt());
        return switch (sort) {
            case "eats" -> edge(0, 999999);
            case "coin" -> edge(0, lot.nextBoolean() ? 99 : 3);
            case "size" -> edge(1, lot.nextBoolean() ? 99999 : 900);
            case "side" -> edge(2, lot.nextBoolean() ? 20 : 4);
            case "hall" -> full ? edge(0, 5) : upTo(2);
            case "surface" -> full ? edge(0, 5) : upTo(5);
            case "stuff" -> full ? edge(0, 7) : upTo(5);
            case "feet" -> edge(0, lot.nextBoolean() ? 9999 : 100);
            case "what2" -> edge(0, 1);
            case "what3" -> edge(0, 2);
            case "what4" -> edge(0, 3);
            case "what7" -> edge(0, 6);
            case "told" -> edge(0, 10);
            case "number" -> edge(0, 999);
            case "pitch" -> edge(0, 2);
            case "kind" -> edge(0, 5);
            case "where" -> upTo(full ? 5 : 2) * 10 + edge(0, 2);
            case "many", "people" -> edge(0, lot.nextBoolean() ? 999 : 60);
            case "time" -> edge(0, pick(99999, 1000, 300));
            case "tired" -> edge(0, 9);
            case "night" -> full ? edge(0, 39) : upTo(20);
            case "n8" -> edge(0, 8);
            case "text" -> upTo(5);
            case "laws" -> laws();
            case "from", "to" -> edge(1, 40);
            case "slip" -> edge(0, pick(9999, 900, 90));
            case "most" -> edge(0, 200);
            case "seat" -> upTo(lot.nextBoolean() ? 399 : 10);
            case "way" -> edge(0, 3);
            case "steps" -> edge(1, 400);
            case "ways" -> edge(0, 3) * 1000 + edge(1, 400);
            case "sheet" -> edge(0, 3);
            case "sort" -> pick(0, 1, 1, 2, 2, 2, -1, 3);
            case "cells" -> edge(0, lot.nextBoolean() ? 40 : 10);
            case "place" -> edge(0, lot.nextBoolean() ? 40 : 8);
            case "cell" -> pick(upTo(5), upTo(2), lot.nextInt(), edge(0, 300));
            default -> throw new IllegalStateException(sort);
        };
    }

    private String expression(int depth) {
        int at = lot.nextInt(depth <= 0 ? 2 : 12);
        if (at == 0) return Integer.toString(pick(0, 1, 2, 3, upTo(9999)));
        if (at == 1) return WORDS[5 + lot.nextInt(6)];
        if (at <= 3) return "(" + expression(depth - 1) + ")";
        if (at == 4) return "-" + expression(depth - 1);
        if (at == 5) return "not " + expression(depth - 1);
        String sign = new String[] {" or ", " and ", "+", " - ", "*", "<"}[at - 6];
        return expression(depth - 1) + (lot.nextInt(4) == 0 ? " = " : sign) + expression(depth - 1);
    }

    private String textByLot() {
        StringBuilder text = new StringBuilder();
        if (lot.nextInt(4) == 0) {
            for (int i = upTo(30); i >= 0; i--) text.append(WORDS[lot.nextInt(WORDS.length)]).append(lot.nextBoolean() ? " " : "");
        } else {
            text.append("late ").append(expression(upTo(5))).append(" ;leave ").append(expression(upTo(4))).append(";");
        }
        if (lot.nextInt(6) == 0) text.insert(lot.nextInt(text.length() + 1), WORDS[lot.nextInt(WORDS.length)]);
        if (lot.nextInt(8) == 0) text.setLength(lot.nextInt(text.length() + 1));
        if (text.length() > 160) text.setLength(160);
        return text.toString();
    }

    private void both(int run, CushionHall x, PlainHall y, String name, Object... args) throws Exception {
        long got = ((Number) tried.get(name).invoke(x, args)).longValue();
        long want = ((Number) plain.get(name).invoke(y, args)).longValue();
        due.is("run " + run + ": " + name + java.util.Arrays.toString(args), got, want);
    }

    private void feedText(int run, CushionHall x, PlainHall y) throws Exception {
        byte[] bytes = textByLot().getBytes(java.nio.charset.StandardCharsets.ISO_8859_1);
        for (int i = 0; i < bytes.length; i += 8) {
            int n = Math.min(8, bytes.length - i);
            both(run, x, y, "feed", n, Due.pack(bytes, i, n));
        }
        both(run, x, y, "text");
        both(run, x, y, "force", upTo(5));
    }

    private void oneCall(int run, CushionHall x, PlainHall y) throws Exception {
        if (lot.nextInt(60) == 0) {
            feedText(run, x, y);
            return;
        }
        String[] call = CALLS[lot.nextInt(CALLS.length)].split(" ");
        if (call[0].equals("back") && lot.nextInt(3) != 0) return;
        Object[] args = new Object[call.length - 1];
        for (int i = 1; i < call.length; i++) {
            if (call[i].equals("bytes")) args[i - 1] = lot.nextLong();
            else args[i - 1] = argument(call[i]);
        }
        both(run, x, y, call[0], args);
    }

    private void start(int run, CushionHall x, PlainHall y) throws Exception {
        for (int i = upTo(4); i > 0; i--) both(run, x, y, "stuff", argument("eats"), argument("coin"));
        for (int i = upTo(3); i > 0; i--) both(run, x, y, "hall", argument("size"), argument("side"), argument("side"));
        for (int i = upTo(8); i > 0; i--) both(run, x, y, "surface", argument("hall"), argument("stuff"), argument("feet"));
        for (int i = upTo(8); i > 0; i--) {
            both(run, x, y, "night", argument("kind"), argument("where"), argument("many"), argument("time"), argument("tired"));
        }
        if (lot.nextInt(3) == 0) feedText(run, x, y);
    }

    private void startFull(int run, CushionHall x, PlainHall y) throws Exception {
        int stuffs = pick(5, 6, 8);
        for (int i = 0; i < stuffs; i++) both(run, x, y, "stuff", upTo(99) * 10101, upTo(99));
        for (int i = 0; i < 6; i++) both(run, x, y, "hall", argument("size"), 2 + upTo(18), 2 + upTo(18));
        for (int i = 0; i < 36; i++) {
            if (i % 6 < 5 || lot.nextBoolean()) both(run, x, y, "surface", i / 6, upTo(stuffs - 1), upTo(9999));
        }
        for (int i = 0; i < 40; i++) {
            both(run, x, y, "night", upTo(5), upTo(5) * 10 + upTo(2), argument("many"), argument("time"), upTo(9));
        }
    }

    /** Nights that were heard nearly as some LAW and CUSHION would have it, so that few pairs are let by small slips. */
    private void nearlyTrue(int run, CushionHall x, PlainHall y) throws Exception {
        PlainHall truth = new PlainHall();
        truth.halls = y.halls;
        truth.stuffs = y.stuffs;
        truth.set(0, 1 + upTo(998));
        truth.set(1, upTo(999));
        int blur = pick(0, 1, 5, 40);
        for (int i = upTo(20); i > 0; i--) {
            int kind = pick(0, 1, 1, 1, 2, 3, 4, 5), where = 10 * upTo(2) + upTo(2), many = upTo(60), tired = upTo(9);
            int night = truth.night(kind, where, many, 1, tired);
            long heard = night < 0 ? 1 : Math.max(1, Math.min(99999, truth.told(night, 8) + upTo(2 * blur) - blur));
            both(run, x, y, "night", kind, where, many, (int) heard, tired);
        }
        int from = Math.max(1, truth.law - upTo(50)), to = Math.min(999, truth.law + upTo(9));
        for (int slip : new int[] {0, 1, blur, 2 * blur, upTo(200), upTo(9999)}) {
            for (int what = 0; what < 3; what++) both(run, x, y, "lets", 1000 * from + to, slip, what);
            both(run, x, y, "thrownOut", 1000 * from + to, slip);
            both(run, x, y, "narrows", 1000 * from + to, slip, 10 * upTo(2) + upTo(2), upTo(200));
        }
        for (int what = 0; what < 3; what++) {
            both(run, x, y, "fit", from, to, what);
            for (int hall = 0; hall < 3; hall++) both(run, x, y, "better", hall, what);
        }
    }

    public static void main(String[] args) throws Exception {
        int runs = args.length > 0 ? Integer.parseInt(args[0]) : 300;
        PlainHallTest test = new PlainHallTest();
        for (int run = 0; run < runs && !test.due.failed(); run++) {
            test.lot = new Random(run);
            CushionHall x = new CushionHall();
            PlainHall y = new PlainHall();
            test.full = run % 5 == 1;
            if (test.full) test.startFull(run, x, y);
            else test.start(run, x, y);
            if (run % 3 == 0 && !test.full) test.nearlyTrue(run, x, y);
            for (int i = 0; i < (test.full ? 250 : 300); i++) test.oneCall(run, x, y);
        }
        test.due.end();
    }
}
