import java.lang.reflect.Method;
import java.lang.reflect.Modifier;
import java.util.Arrays;
import java.util.Comparator;
import java.util.List;
import java.util.Map;

/** A LightInRoom and a PlainModel that get the same calls, and must answer the same. */
final class Both {
    /** The calls of the document, in an order that is always the same. */
    static final List<Method> METHODS = Arrays.stream(PlainModel.class.getDeclaredMethods())
            .filter(m -> Modifier.isPublic(m.getModifiers()))
            .sorted(Comparator.comparing(Method::toString)).toList();

    /** The greatest good value of each int argument. */
    private static final Map<String, int[]> MOST = Map.ofEntries(
            Map.entry("feed", new int[] {8}), Map.entry("tellingOf", new int[] {29, 5}),
            Map.entry("kind", new int[] {29}), Map.entry("weight", new int[] {29}),
            Map.entry("law", new int[] {5, 6, 255}), Map.entry("growth", new int[] {1, 50}),
            Map.entry("put", new int[] {29, 1}), Map.entry("fits", new int[] {29, 5}),
            Map.entry("share", new int[] {5, 1}), Map.entry("only", new int[] {5}),
            Map.entry("half", new int[] {5}), Map.entry("sorts", new int[] {1}),
            Map.entry("alike", new int[] {29}), Map.entry("together", new int[] {7, 7}),
            Map.entry("twice", new int[] {29, 29}), Map.entry("grows", new int[] {1, 1}),
            Map.entry("people", new int[] {9, 9}), Map.entry("strokes", new int[] {99}),
            Map.entry("reach", new int[] {5, 10}), Map.entry("should", new int[] {5}),
            Map.entry("seen", new int[] {5}), Map.entry("beyond", new int[] {5, 999}),
            Map.entry("pictures", new int[] {5}), Map.entry("bench", new int[] {40, 40, 7, 255}),
            Map.entry("lines", new int[] {29}), Map.entry("misses", new int[] {29}),
            Map.entry("barred", new int[] {255}), Map.entry("glasses", new int[] {5, 5}),
            Map.entry("count", new int[] {17}));

    private final LightInRoom real = new LightInRoom();
    private final PlainModel model = new PlainModel();
    private final StringBuilder told = new StringBuilder();
    private final Check check;
    private int calls = 0;

    Both(Check check) {
        this.check = check;
    }

    static Method named(String name) {
        return METHODS.stream().filter(m -> m.getName().equals(name)).findFirst().orElseThrow();
    }

    static int most(Method m, int argument) {
        return MOST.get(m.getName())[argument];
    }

    void call(String name, Object... arguments) throws ReflectiveOperationException {
        call(named(name), arguments);
    }

    void call(Method m, Object... arguments) throws ReflectiveOperationException {
        calls++;
        Method same = LightInRoom.class.getMethod(m.getName(), m.getParameterTypes());
        int got = (Integer) same.invoke(real, arguments);
        int want = (Integer) m.invoke(model, arguments);
        String text = m.getName() + Arrays.toString(arguments);
        told.append(text).append(" = ").append(got).append('\n');
        check.due(text, got, want);
    }

    void tell(String text) throws ReflectiveOperationException {
        for (int at = 0; at < text.length(); at += 8) {
            int n = Math.min(8, text.length() - at);
            call("feed", n, Texts.bytes(text, at, n));
        }
        call("telling");
    }

    int calls() {
        return calls;
    }

    /** All calls until now, with the class's answers. */
    String told() {
        return told.toString();
    }
}
