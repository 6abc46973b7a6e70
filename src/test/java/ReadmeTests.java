import java.lang.reflect.Method;
import java.nio.file.Files;
import java.nio.file.Path;
import java.util.Set;
import java.util.TreeSet;
import java.util.regex.Matcher;
import java.util.regex.Pattern;

/** The examples of README.md answer as they say there, and it names every call of the document's face. */
public final class ReadmeTests {
    private static final Pattern CALL = Pattern.compile("x\\.(\\w+)\\(([^)]*)\\);\\s*// (-?\\d+)(\\D.*)?");
    private static int asked, wrong;

    public static void main(String[] args) throws Exception {
        String readme = Files.readString(Path.of("README.md"));
        boolean code = false;
        DripStone x = null;
        for (String line : readme.split("\n")) {
            if (line.startsWith("```")) {
                code = line.equals("```java");
            } else if (code && line.equals("DripStone x = new DripStone();")) {
                x = new DripStone();
            } else if (code) {
                ask(x, line);
            }
        }
        for (String name : calls()) {
            due("README.md names " + name, readme.contains("`" + name + "`") ? 1 : 0, 1);
        }
        due("README.md says how to run the tests", readme.contains("    .ci/run\n") ? 1 : 0, 1);
        for (String test : tests()) {
            due("README.md names " + test, readme.contains("| `" + test + "` |") ? 1 : 0, 1);
        }
        System.out.println(asked + " answers asked, " + wrong + " wrong");
        if (wrong > 0 || asked == 0) {
            System.exit(1);
        }
    }

    private static Set<String> calls() {
        Set<String> names = new TreeSet<>();
        for (Method m : DripStone.class.getDeclaredMethods()) {
            if (java.lang.reflect.Modifier.isPublic(m.getModifiers())) {
                names.add(m.getName());
            }
        }
        return names;
    }

    private static Set<String> tests() throws Exception {
        Set<String> names = new TreeSet<>();
        try (var files = Files.list(Path.of("src/test/java"))) {
            files.forEach(f -> names.add(f.getFileName().toString().replace(".java", "")));
        }
        return names;
    }

    private static void ask(DripStone x, String line) throws Exception {
        Matcher m = CALL.matcher(line);
        if (!m.matches()) {
            due("an example that can be read: " + line, 0, 1);
            return;
        }
        for (Method method : DripStone.class.getMethods()) {
            if (method.getName().equals(m.group(1))) {
                due(line, ((Number) method.invoke(x, values(method, m.group(2)))).longValue(), Long.parseLong(m.group(3)));
                return;
            }
        }
        due("a call of the face: " + line, 0, 1);
    }

    private static Object[] values(Method method, String told) {
        Class<?>[] types = method.getParameterTypes();
        String[] texts = told.isEmpty() ? new String[0] : told.split(",\\s*");
        Object[] values = new Object[texts.length];
        for (int i = 0; i < texts.length; i++) {
            long v = Long.decode(texts[i].replace("L", ""));
            values[i] = types[i] == long.class ? (Object) v : (Object) (int) v;
        }
        return values;
    }

    private static void due(String what, long got, long want) {
        asked++;
        if (got != want) {
            wrong++;
            System.out.println(what + ": answered " + got + ", due is " + want);
        }
    }
}
