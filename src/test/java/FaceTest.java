import java.io.IOException;
import java.lang.reflect.Constructor;
import java.lang.reflect.Field;
import java.lang.reflect.Method;
import java.lang.reflect.Modifier;
import java.nio.file.Files;
import java.nio.file.Path;
import java.util.Arrays;
import java.util.Set;
import java.util.TreeSet;
import java.util.regex.Matcher;
import java.util.regex.Pattern;
import java.util.stream.Collectors;

/** The public face is the document's and no more, and the file keeps to LANGUAGE.md's plain rules. */
public final class FaceTest {
    private static final Path SOURCE = Path.of("src/main/java/LightInRoom.java");
    private static final Path DOCUMENT = Path.of("../shared/DOC.md");
    private static final Pattern METHOD = Pattern.compile(
            "( {4}| {8})(?! |if |for |while |switch )[\\w \\[\\]]+\\(.*\\) \\{");
    private static final Check CHECK = new Check();

    public static void main(String[] args) throws IOException {
        methods();
        members();
        classesInside();
        String code = code();
        words(code);
        library(code);
        lengths(code);
        CHECK.end();
    }

    private static void methods() throws IOException {
        Set<String> told = new TreeSet<>();
        Matcher line = Pattern.compile("(?m)^    public (\\w+) (\\w+)\\((.*)\\);$")
                .matcher(Files.readString(DOCUMENT));
        while (line.find()) {
            String types = Arrays.stream(line.group(3).split(", ")).map(p -> p.split(" ")[0])
                    .collect(Collectors.joining(","));
            told.add(line.group(1) + " " + line.group(2) + "(" + types + ")");
        }
        Set<String> found = new TreeSet<>();
        for (Method m : LightInRoom.class.getDeclaredMethods()) {
            if (!Modifier.isPrivate(m.getModifiers())) {
                CHECK.holds(m + " is public, and not static",
                        Modifier.isPublic(m.getModifiers()) && !Modifier.isStatic(m.getModifiers()));
                found.add(m.getReturnType() + " " + m.getName() + "(" + Arrays.stream(
                        m.getParameterTypes()).map(Class::getName).collect(Collectors.joining(","))
                        + ")");
            }
        }
        CHECK.due("how many calls the document has", told.size(), 35);
        CHECK.holds("the calls are the document's: " + told + " and not " + found,
                told.equals(found));
    }

    private static void members() {
        CHECK.holds("public and final", LightInRoom.class.getModifiers()
                == (Modifier.PUBLIC | Modifier.FINAL));
        Constructor<?>[] constructors = LightInRoom.class.getDeclaredConstructors();
        CHECK.holds("one constructor, public, without arguments", constructors.length == 1
                && Modifier.isPublic(constructors[0].getModifiers())
                && constructors[0].getParameterCount() == 0);
        for (Field field : LightInRoom.class.getDeclaredFields()) {
            CHECK.holds(field + " is private", Modifier.isPrivate(field.getModifiers()));
        }
    }

    private static void classesInside() {
        Class<?>[] inside = LightInRoom.class.getDeclaredClasses();
        CHECK.holds("at most twelve classes", inside.length + 1 <= 12);
        Set<String> face = Arrays.stream(LightInRoom.class.getDeclaredMethods())
                .filter(m -> Modifier.isPublic(m.getModifiers())).map(Method::getName)
                .collect(Collectors.toSet());
        for (Class<?> one : inside) {
            int is = one.getModifiers();
            CHECK.holds(one + " is static and not public", Modifier.isStatic(is)
                    && !Modifier.isPublic(is) && !Modifier.isProtected(is));
            fieldsOf(one);
            for (Method m : one.getDeclaredMethods()) {
                CHECK.holds(m + " bears no name of the face", !face.contains(m.getName()));
            }
        }
        for (Method m : LightInRoom.class.getDeclaredMethods()) {
            CHECK.holds(m + " bears no name of the face", Modifier.isPublic(m.getModifiers())
                    || !face.contains(m.getName()));
            CHECK.holds(m + " takes at most seven", m.getParameterCount() <= 7);
        }
        fieldsOf(LightInRoom.class);
    }

    private static void fieldsOf(Class<?> one) {
        int own = 0;
        for (Field field : one.getDeclaredFields()) {
            int is = field.getModifiers();
            CHECK.holds(field + " is a constant or no static one",
                    !Modifier.isStatic(is) || Modifier.isFinal(is));
            own += Modifier.isStatic(is) ? 0 : 1;
        }
        CHECK.holds(one + " has at most twenty fields", own <= 20);
    }

    /** The source without comments, texts and signs, line for line. */
    private static String code() throws IOException {
        String text = Files.readString(SOURCE);
        CHECK.holds("signs 1 to 127", text.chars().allMatch(c -> c >= 1 && c <= 127));
        return Pattern.compile("(?s)/\\*.*?\\*/").matcher(text)
                .replaceAll(comment -> comment.group().replaceAll("[^\n]", ""))
                .replaceAll("//[^\n]*", "").replaceAll("\"[^\"\n]*\"", "\"\"")
                .replaceAll("'.'", "' '");
    }

    private static void words(String code) {
        String[] words = {"throw", "throws", "try", "catch", "finally", "synchronized", "assert",
            "import", "package", "Object", "System.out", "System.err", "Random", "Thread", "hashCode",
            "toString", "getClass", "java"};
        for (String word : words) {
            CHECK.holds("the code is without " + word,
                    !Pattern.compile("\\b" + Pattern.quote(word) + "\\b").matcher(code).find());
        }
        for (String sign : new String[] {"->", "::", "@"}) {
            CHECK.holds("the code is without " + sign, !code.contains(sign));
        }
    }

    /** Of the library only what the class needs now; LANGUAGE.md lists what else it may take. */
    private static void library(String code) {
        Set<String> known = Set.of("Integer.bitCount", "Math.max", "Math.min", "System.arraycopy");
        Matcher use = Pattern.compile("\\b(?:Integer|Long|Short|Byte|Character|Boolean|Double|Float"
                + "|Math|StrictMath|System|Arrays|List|ArrayList|String|StringBuilder)\\.\\w+")
                .matcher(code);
        while (use.find()) {
            CHECK.holds(use.group() + " is in LANGUAGE.md's list", known.contains(use.group()));
        }
    }

    private static void lengths(String code) {
        String[] lines = code.split("\n");
        int methods = 0;
        for (int from = 0; from < lines.length; from++) {
            Matcher start = METHOD.matcher(lines[from]);
            if (start.matches()) {
                methods++;
                int to = from;
                while (to < lines.length && !lines[to].equals(start.group(1) + "}")) {
                    to++;
                }
                CHECK.holds(lines[from].strip() + " has at most sixty lines", to - from < 60);
            }
        }
        CHECK.holds("methods were found: " + methods, methods > 35);
    }
}
