import java.lang.reflect.Method;
import java.util.ArrayList;
import java.util.List;

/**
 * Each call with all combinations of arguments at, just inside and just outside their edges and at
 * the ends of int, in an empty, a small and a full room; each answer must be that of PlainModel.
 */
public final class SweepTest {
    /** With what builds the room and looks at it behind them, an object stays below 512 calls. */
    private static final int CALLS_A_ROOM = 200;
    private static final Check CHECK = new Check();

    private interface Room {
        Both make() throws ReflectiveOperationException;
    }

    public static void main(String[] args) throws ReflectiveOperationException {
        for (Method m : Both.METHODS) {
            sweep(m, SweepTest::empty);
            sweep(m, SweepTest::small);
            sweep(m, SweepTest::full);
        }
        CHECK.end();
    }

    private static Both empty() {
        return new Both(CHECK);
    }

    private static Both small() throws ReflectiveOperationException {
        Both both = new Both(CHECK);
        both.tell("s40t5c3bn@3");
        both.tell("t20c1mop@9?");
        tellSome(both);
        both.call("image");
        both.tell("s80t7hp@30");
        both.call("twice", 1, 2);
        both.call("feed", 2, 0x3140L);
        return both;
    }

    private static Both full() throws ReflectiveOperationException {
        Both both = new Both(CHECK);
        for (int i = 0; i < 30; i++) {
            both.tell("s" + 33 * i + "bhuwnmop".charAt(i % 8) + "@" + 3 * i + (i % 5 == 0 ? "?" : ""));
        }
        tellSome(both);
        for (int i = 1; i < 10; i++) {
            both.call("twice", i, i + 1);
        }
        both.call("image");
        for (int i = 0; i < 3; i++) {
            both.call("feed", 8, 0x3140L);
        }
        return both;
    }

    private static void tellSome(Both both) throws ReflectiveOperationException {
        both.call("right", true);
        both.call("growth", 0, 2);
        both.call("growth", 1, 50);
        int[] values = {300, 600, 5, 40, 10, 1, 2};
        for (int what = 0; what < 7; what++) {
            both.call("law", what % 6, what, values[what]);
            both.call("people", what, values[what]);
        }
        both.call("strokes", 3);
        both.call("reach", 2, 4);
        both.call("bench", 40, 7, 1, 33);
        both.call("twice", 0, 1);
    }

    private static void sweep(Method m, Room room) throws ReflectiveOperationException {
        List<Object[]> all = combinations(m);
        for (int from = 0; from < all.size(); from += CALLS_A_ROOM) {
            Both both = room.make();
            for (Object[] arguments : all.subList(from, Math.min(all.size(), from + CALLS_A_ROOM))) {
                both.call(m, arguments);
            }
            lookAt(both);
            CHECK.holds("512 calls at most", both.calls() <= 512);
        }
    }

    private static void lookAt(Both both) throws ReflectiveOperationException {
        for (int what = 0; what <= 16; what++) {
            both.call("count", what);
        }
        for (int law = 0; law < 6; law++) {
            both.call("seen", law);
            both.call("half", law);
            both.call("should", law);
            both.call("glasses", law, 2);
        }
        for (int telling = 0; telling < 3; telling++) {
            both.call("lines", telling);
            both.call("alike", telling);
        }
        both.call("cover");
        both.call("leads");
        both.call("grows", 0, 0);
        both.call("on");
        both.call("cover");
        both.call("grows", 1, 1);
    }

    private static List<Object[]> combinations(Method m) {
        List<Object[]> all = new ArrayList<>();
        all.add(new Object[0]);
        Class<?>[] types = m.getParameterTypes();
        for (int i = 0; i < types.length; i++) {
            List<Object[]> more = new ArrayList<>();
            for (Object[] start : all) {
                for (Object edge : edges(m, i, types)) {
                    Object[] row = java.util.Arrays.copyOf(start, i + 1);
                    row[i] = edge;
                    more.add(row);
                }
            }
            all = more;
        }
        return all;
    }

    private static List<Object> edges(Method m, int argument, Class<?>[] types) {
        if (types[argument] == boolean.class) {
            return List.of(true, false, false, true, true);
        }
        if (types[argument] == long.class) {
            return List.of(0L, -1L, 0x3140L, Long.MIN_VALUE, Long.MAX_VALUE);
        }
        int most = Both.most(m, argument);
        List<Object> edges = new ArrayList<>(List.of(Integer.MIN_VALUE, -1, 0, 1, most - 1, most,
                most + 1, Integer.MAX_VALUE));
        // The greatest of some arguments hang on another one.
        if (m.getName().equals("law") && argument == 2 || m.getName().equals("bench")) {
            edges.add(999);
            edges.add(1000);
        }
        return edges;
    }
}
