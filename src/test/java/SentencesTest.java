import java.io.IOException;
import java.nio.charset.StandardCharsets;
import java.nio.file.Files;
import java.nio.file.Path;
import java.util.ArrayList;
import java.util.List;
import java.util.regex.Matcher;
import java.util.regex.Pattern;

/** Every word of the document's terms and promises stands in a sentence that a test quotes, or in one without bounds. */
public final class SentencesTest {
    private static final Due DUE = new Due();
    private static final Path TESTS = Path.of("src", "test", "java");
    private static final Pattern QUOTE = Pattern.compile("DUE\\.by\\(\"([^\"]*)\"\\)");

    /** Words that name no boundary: the titles and what a thing is called. Their answers are due in other tests, too. */
    private static final String[] WITHOUT_BOUNDS = {
        "## Terms",
        "a HALL, a PITCH, so MANY",
        "SUM: TERM",
        "late: as above; leave:",
        "==== 2 FIT: LAWS",
        "greatest CUSHION of LETS (and the LAW",
        "NARROWS: of CUSHIONED NIGHTS",
        "==== 3 A PLAN",
        "==== 4 SHEETS",
        "Ahead of the calls `stuff`, `hall`, `surface`, `cover`, `set`, `eaten` the interface says: ---- stuffs, halls.",
        "Ahead of the calls `night`, `told`, `feed`, `text`, `force` the interface says: ---- nights.",
        "Ahead of the calls `fit`, `lets`, `thrownOut`, `better`, `narrows` the interface says: ---- what nights say.",
        "Ahead of the calls `plan`, `aim`, `wrong`, `echo`, `hears`, `clear`, `image`, `back`, `count` the interface says: ---- plans.",
        "Ahead of the calls `sheet`, `cell`, `copy`, `nights`, `taken` the interface says: ---- the host."};

    private static List<String> quotes() throws IOException {
        List<String> all = new ArrayList<>();
        List<Path> files;
        try (var listed = Files.list(TESTS)) {
            files = listed.filter(f -> f.toString().endsWith("Test.java")).sorted().toList();
        }
        for (Path file : files) {
            Matcher quote = QUOTE.matcher(Files.readString(file, StandardCharsets.UTF_8));
            while (quote.find()) all.add(quote.group(1));
        }
        return all;
    }

    private static String termsAndPromises() {
        String document = Due.document();
        int from = document.indexOf("## Terms");
        int to = document.indexOf("## Not promised");
        DUE.holds("terms stand ahead of what is not promised", from >= 0 && from < to);
        return document.substring(from, to).replaceAll("## Promise \\d+: .*?`[^`]*`: ", "").replace("```text", "").replace("```", "");
    }

    private static void cover(String text, String words, boolean[] covered) {
        for (int at = text.indexOf(words); at >= 0; at = text.indexOf(words, at + 1)) {
            for (int i = 0; i < words.length(); i++) covered[at + i] = true;
        }
    }

    public static void main(String[] args) throws IOException {
        String text = termsAndPromises();
        boolean[] covered = new boolean[text.length()];
        for (String words : quotes()) cover(text, words, covered);
        for (String words : WITHOUT_BOUNDS) {
            DUE.holds("the document says «" + words + "»", text.contains(words));
            cover(text, words, covered);
        }
        for (int i = 0; i < text.length(); i++) {
            if (covered[i] || !Character.isLetterOrDigit(text.charAt(i))) continue;
            int from = i;
            while (i < text.length() && !(covered[i] && Character.isLetterOrDigit(text.charAt(i)))) i++;
            String ahead = text.substring(Math.max(0, from - 40), from);
            DUE.is("behind «" + ahead + "» of «" + text.substring(from, i).trim() + "», tests that quote it:", 0, 1);
        }
        DUE.end();
    }
}
