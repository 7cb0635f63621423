import java.io.IOException;
import java.nio.charset.StandardCharsets;
import java.nio.file.Files;
import java.nio.file.Path;

/**
 * What every test of the project uses: it prints each answer that is not as due, with the sentence of the document by
 * which it is due, and ends with 1 if there was one. Run from the project's folder.
 */
final class Due {
    static final Path DOCUMENT = Path.of("..", "shared", "DOC.md");

    private final String document = document();
    private String sentence = "";
    private int wrong = 0;

    static String document() {
        try {
            return Files.readString(DOCUMENT, StandardCharsets.UTF_8).replaceAll("\\s+", " ");
        } catch (IOException e) {
            throw new IllegalStateException("no document at " + DOCUMENT.toAbsolutePath(), e);
        }
    }

    /** From here on answers are due by these words, which must stand in the document as they are here. */
    void by(String words) {
        sentence = words;
        holds("the document says so", document.contains(words));
    }

    void is(String call, long got, long want) {
        if (got == want) return;
        wrong++;
        if (wrong > 50) return;
        if (!sentence.isEmpty()) System.out.println("by «" + sentence + "»:");
        System.out.println(call + " answered " + got + ", due is " + want);
    }

    void holds(String what, boolean holds) {
        if (!holds) is(what, 0, 1);
    }

    void end() {
        System.out.println(wrong == 0 ? "all answers are as due" : wrong + " answers are not as due");
        if (wrong != 0) System.exit(1);
    }

    boolean failed() {
        return wrong != 0;
    }

    /** Feeds a text to THE TAPE, eight bytes at a time. */
    static void feed(CushionHall hall, String text) {
        byte[] bytes = text.getBytes(StandardCharsets.ISO_8859_1);
        for (int i = 0; i < bytes.length; i += 8) {
            int n = Math.min(8, bytes.length - i);
            hall.feed(n, pack(bytes, i, n));
        }
    }

    static long pack(byte[] bytes, int from, int n) {
        long packed = 0;
        for (int k = 0; k < n; k++) packed |= (bytes[from + k] & 255L) << (8 * k);
        return packed;
    }

    /** Feeds a text and reads it. */
    static int read(CushionHall hall, String text) {
        feed(hall, text);
        return hall.text();
    }
}
