import java.io.IOException;
import java.lang.reflect.Method;
import java.lang.reflect.Modifier;
import java.nio.charset.StandardCharsets;
import java.nio.file.Files;
import java.nio.file.Path;
import java.util.Set;
import java.util.TreeSet;
import java.util.regex.Matcher;
import java.util.regex.Pattern;

/** Each call in README.md answers what stands behind it; each method of the face is called there. */
public final class ReadmeTest {
    private static final Due DUE = new Due();
    private static final Pattern CALL = Pattern.compile("(?m)^x\\.(\\w+)\\((.*?)\\); +// (-?\\d+)(:|$)");

    private static Method method(String name) {
        for (Method m : CushionHall.class.getDeclaredMethods()) {
            if (m.getName().equals(name)) return m;
        }
        throw new IllegalStateException("no method " + name);
    }

    private static long answer(CushionHall x, Method m, String written) throws ReflectiveOperationException {
        String[] parts = written.isEmpty() ? new String[0] : written.split(", *");
        Class<?>[] types = m.getParameterTypes();
        DUE.is("parameters of " + m.getName() + "(" + written + ")", parts.length, types.length);
        Object[] arguments = new Object[types.length];
        for (int i = 0; i < types.length; i++) {
            if (types[i] == long.class) arguments[i] = Long.parseLong(parts[i].replace("L", ""));
            else arguments[i] = Integer.parseInt(parts[i]);
        }
        return ((Number) m.invoke(x, arguments)).longValue();
    }

    private static long lines(String readme) {
        return readme.lines().filter(line -> line.startsWith("x.")).count();
    }

    public static void main(String[] args) throws IOException, ReflectiveOperationException {
        String readme = Files.readString(Path.of("README.md"), StandardCharsets.UTF_8);
        CushionHall x = new CushionHall();
        Set<String> missing = new TreeSet<>();
        for (Method m : CushionHall.class.getDeclaredMethods()) {
            if (Modifier.isPublic(m.getModifiers())) missing.add(m.getName());
        }
        int calls = 0;
        Matcher call = CALL.matcher(readme);
        while (call.find()) {
            calls++;
            missing.remove(call.group(1));
            DUE.is(call.group(), answer(x, method(call.group(1)), call.group(2)), Long.parseLong(call.group(3)));
        }
        DUE.is("calls in README.md that tell an answer", calls, lines(readme));
        DUE.holds("all of the face is called, but for " + missing, missing.isEmpty());
        DUE.end();
    }
}
