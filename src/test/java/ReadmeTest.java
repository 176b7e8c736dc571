import java.io.IOException;
import java.lang.reflect.Method;
import java.nio.file.Files;
import java.nio.file.Path;
import java.util.List;
import java.util.Map;
import java.util.TreeMap;
import java.util.regex.Matcher;
import java.util.regex.Pattern;

/** README.md's example answers what it says, and the page names each call and each test. */
public final class ReadmeTest {
    private static final Path TESTS = Path.of("src/test/java");
    private static final Pattern EXAMPLE = Pattern.compile("(?m)^x\\.(\\w+)\\((.*)\\); *// (-?\\d+)");
    private static final Check CHECK = new Check();

    public static void main(String[] args) throws IOException, ReflectiveOperationException {
        String readme = Files.readString(Path.of("README.md"));
        Map<String, Method> face = new TreeMap<>();
        for (Method m : Both.METHODS) {
            face.put(m.getName(), LightInRoom.class.getMethod(m.getName(), m.getParameterTypes()));
        }
        example(readme, face);
        names(readme, face);
        CHECK.end();
    }

    private static void example(String readme, Map<String, Method> face)
            throws ReflectiveOperationException {
        long lines = readme.lines().filter(line -> line.startsWith("x.")).count();
        LightInRoom x = new LightInRoom();
        Matcher line = EXAMPLE.matcher(readme);
        int run = 0;
        while (line.find()) {
            run++;
            Method m = face.get(line.group(1));
            CHECK.holds("there is a call " + line.group(1), m != null);
            if (m != null) {
                int got = (Integer) m.invoke(x, arguments(m, line.group(2)));
                CHECK.due("README: " + line.group(), got, Integer.parseInt(line.group(3)));
            }
        }
        CHECK.holds("there is an example", run > 0);
        CHECK.due("README: how many lines of the example tell an answer", run, lines);
    }

    private static Object[] arguments(Method m, String told) {
        Class<?>[] types = m.getParameterTypes();
        Object[] arguments = new Object[types.length];
        String[] parts = told.split(", ");
        for (int i = 0; i < types.length; i++) {
            if (types[i] == boolean.class) {
                arguments[i] = Boolean.valueOf(parts[i]);
            } else if (types[i] == long.class) {
                arguments[i] = Long.decode(parts[i].replace("L", ""));
            } else {
                arguments[i] = Integer.decode(parts[i]);
            }
        }
        return arguments;
    }

    private static void names(String readme, Map<String, Method> face) throws IOException {
        for (String call : face.keySet()) {
            CHECK.holds("README names the call " + call, readme.contains("`" + call + "`"));
        }
        List<String> tests;
        try (var files = Files.list(TESTS)) {
            tests = files.map(file -> file.getFileName().toString().replace(".java", ""))
                    .filter(name -> name.endsWith("Test")).sorted().toList();
        }
        for (String test : tests) {
            CHECK.holds("README names the test " + test, readme.contains("`" + test + "`"));
        }
    }
}
