import java.nio.charset.StandardCharsets;

/** What every test of the project uses: it prints each answer that is not as due, and ends with 1 if there was one. */
final class Due {
    private int wrong = 0;

    void is(String call, long got, long want) {
        if (got == want) return;
        wrong++;
        if (wrong <= 50) System.out.println(call + " answered " + got + ", due is " + want);
    }

    void holds(String what, boolean holds) {
        if (!holds) is(what, 0, 1);
    }

    void end() {
        System.out.println(wrong == 0 ? "all answers are as due" : wrong + " answers are not as due");
        if (wrong != 0) System.exit(1);
    }

    boolean failed() {
        return wrong != 0;
    }

    /** Feeds a text to THE TAPE, eight bytes at a time. */
    static void feed(CushionHall hall, String text) {
        byte[] bytes = text.getBytes(StandardCharsets.ISO_8859_1);
        for (int i = 0; i < bytes.length; i += 8) {
            int n = Math.min(8, bytes.length - i);
            hall.feed(n, pack(bytes, i, n));
        }
    }

    static long pack(byte[] bytes, int from, int n) {
        long packed = 0;
        for (int k = 0; k < n; k++) packed |= (bytes[from + k] & 255L) << (8 * k);
        return packed;
    }

    /** Feeds a text and reads it. */
    static int read(CushionHall hall, String text) {
        feed(hall, text);
        return hall.text();
    }
}
