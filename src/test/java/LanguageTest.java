import java.lang.reflect.Field;
import java.lang.reflect.Method;
import java.lang.reflect.Modifier;
import java.nio.charset.StandardCharsets;
import java.nio.file.Files;
import java.nio.file.Path;
import java.util.Arrays;
import java.util.Set;
import java.util.TreeSet;
import java.util.regex.Matcher;
import java.util.regex.Pattern;

/** The face of the document, and the rules of LANGUAGE.md that a test can see. Run from the project's folder. */
public final class LanguageTest {
    private static final Due DUE = new Due();
    private static final String[] FACE = {
        "int stuff(int, int)", "int hall(int, int, int)", "int surface(int, int, int)", "int cover(int, int, int)",
        "int set(int, int)", "long eaten(int, int, int)", "int night(int, int, int, int, int)", "long told(int, int)",
        "int feed(int, long)", "int text()", "int force(int)", "long fit(int, int, int)", "int lets(int, int, int)",
        "int thrownOut(int, int)", "long better(int, int)", "int narrows(int, int, int, int)",
        "long plan(int, int, int)", "long aim(int, int, int, int, int)", "long wrong(int, int, int, int, int)",
        "int echo(int, int, int, int)", "int hears(int, int, int, int)", "int clear(int, int)", "int image()",
        "int back()", "int count(int)", "int sheet(int, int, int)", "int cell(int, int, int)",
        "int copy(int, int, int, int, int)", "int nights(int, int, int, int)", "int taken(int, int)"};
    private static final String[] CONSTANTS = {"int NONE", "int BAD", "int STATE", "int FULL", "long NO"};
    private static final String[] FORBIDDEN = {
        "\\bthrow\\b", "\\bthrows\\b", "\\btry\\b", "\\bcatch\\b", "\\bfinally\\b", "\\bsynchronized\\b",
        "\\bassert\\b", "\\bvolatile\\b", "\\bnative\\b", "\\bpackage\\b", "\\bprotected\\b", "->", "::", "@",
        "Exact\\b", "\\bObject\\b", "\\bThread\\b", "\\bRandom\\b", "\\bSystem\\.(?!arraycopy\\()",
        "\\b(Integer|Long|Math)\\.(?!(abs|max|min|compare|bitCount|floorDiv|floorMod)\\()",
        "\\bString\\.", "\\bArrays\\.(?!copyOf\\(|copyOfRange\\(|fill\\()", "\\bimport (?!java\\.util\\.(Arrays|ArrayList|List);)",
        "\\bstatic \\{", "\\[\\]\\[\\]\\[\\]", "\\bhashCode\\b", "\\btoString\\b", "[^\\x00-\\x7f]"};

    private static void face() {
        Set<String> methods = new TreeSet<>();
        Set<String> names = new TreeSet<>();
        for (Method m : CushionHall.class.getDeclaredMethods()) {
            if (Modifier.isPrivate(m.getModifiers())) continue;
            String parameters = Arrays.toString(Arrays.stream(m.getParameterTypes()).map(Class::getName).toArray());
            methods.add(m.getReturnType() + " " + m.getName() + "(" + parameters.substring(1, parameters.length() - 1) + ")");
            names.add(m.getName());
            DUE.holds(m + " is public and no static one", m.getModifiers() == Modifier.PUBLIC);
        }
        DUE.holds("the methods of the face, not " + methods, methods.equals(new TreeSet<>(Arrays.asList(FACE))));
        Set<String> constants = new TreeSet<>();
        for (Field f : CushionHall.class.getDeclaredFields()) {
            if (!Modifier.isPrivate(f.getModifiers())) constants.add(f.getType() + " " + f.getName());
        }
        DUE.holds("the constants of the face, not " + constants, constants.equals(new TreeSet<>(Arrays.asList(CONSTANTS))));
        DUE.holds("public and final", CushionHall.class.getModifiers() == (Modifier.PUBLIC | Modifier.FINAL));
        DUE.is("constructors", CushionHall.class.getDeclaredConstructors().length, 1);
        privateNames(CushionHall.class, names);
        for (Class<?> inside : CushionHall.class.getDeclaredClasses()) {
            DUE.holds(inside + " is static", Modifier.isStatic(inside.getModifiers()));
            privateNames(inside, names);
            sizes(inside);
        }
        sizes(CushionHall.class);
        DUE.holds("at most twelve classes", CushionHall.class.getDeclaredClasses().length < 12);
    }

    private static void privateNames(Class<?> of, Set<String> face) {
        for (Method m : of.getDeclaredMethods()) {
            boolean isFace = of == CushionHall.class && Modifier.isPublic(m.getModifiers());
            DUE.holds(m + " bears no name of the face", isFace || !face.contains(m.getName()));
            DUE.holds(m + " has at most seven parameters", m.getParameterCount() <= 7);
        }
    }

    private static void sizes(Class<?> of) {
        int fields = 0;
        for (Field f : of.getDeclaredFields()) {
            if (Modifier.isStatic(f.getModifiers())) DUE.holds(f + " is final", Modifier.isFinal(f.getModifiers()));
            else fields++;
        }
        DUE.holds(of + " has some twenty fields at most", fields <= 20);
    }

    private static String withoutComments(String source) {
        return source.replaceAll("(?s)/\\*.*?\\*/", "").replaceAll("//[^\n]*", "");
    }

    private static void words(String source) {
        for (String forbidden : FORBIDDEN) {
            Matcher m = Pattern.compile(forbidden).matcher(source);
            DUE.holds("no " + forbidden, !m.find());
        }
    }

    /** Of methods that aren't static, these may call themselves: they and others call one another. */
    private static final Set<String> CALL_ONE_ANOTHER = Set.of("readNot", "readOne");

    private static void recursion(String head, String body) {
        Matcher name = Pattern.compile("(\\w+)\\(").matcher(head);
        if (!name.find() || !Pattern.compile("(?<![.\\w])" + name.group(1) + "\\(").matcher(body).find()) return;
        boolean isPrivateStatic = head.trim().startsWith("private static ");
        DUE.holds("calls itself as rule 8 lets it: " + head.trim(), isPrivateStatic || CALL_ONE_ANOTHER.contains(name.group(1)));
    }

    private static void methods(String source) {
        String[] lines = source.split("\n");
        int start = -1;
        String indent = "";
        for (int i = 0; i < lines.length; i++) {
            Matcher head = Pattern.compile("^( {4}| {8})[^ ].*\\) \\{$").matcher(lines[i]);
            if (start < 0 && head.find()) {
                start = i;
                indent = head.group(1);
            } else if (start >= 0 && lines[i].equals(indent + "}")) {
                DUE.holds("at most sixty lines: " + lines[start].trim(), i - start < 60);
                recursion(lines[start], String.join("\n", Arrays.copyOfRange(lines, start + 1, i)));
                start = -1;
            }
        }
    }

    public static void main(String[] args) throws Exception {
        String source = Files.readString(Path.of("src/main/java/CushionHall.java"), StandardCharsets.UTF_8);
        face();
        words(withoutComments(source));
        methods(withoutComments(source));
        DUE.end();
    }
}
