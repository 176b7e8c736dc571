import java.lang.reflect.Method;
import java.util.Random;

/** Runs of up to 512 calls whose every answer must be that of PlainModel. */
public final class ModelTest {
    private static final int RUNS = 600;
    private static final int CALLS = 512;
    private static final int[] ODD = {Integer.MIN_VALUE, Integer.MIN_VALUE + 1, -1000, -9, -2, -1, 0,
        1, 2, 5, 6, 7, 8, 9, 10, 11, 17, 24, 29, 30, 31, 32, 50, 51, 64, 99, 100, 255, 256, 998, 999,
        1000, 1 << 16, Integer.MAX_VALUE - 1, Integer.MAX_VALUE};
    private final Random random;
    private final Both both;
    private final Check check;

    private ModelTest(int seed, Check check) {
        random = new Random(seed);
        both = new Both(check);
        this.check = check;
    }

    public static void main(String[] args) throws Exception {
        Check check = new Check();
        check.due("how many calls the model has", Both.METHODS.size(), 36 - 1);
        for (int seed = 0; seed < RUNS && check.wrong() == 0; seed++) {
            ModelTest run = new ModelTest(seed, check);
            run.go(seed % 4);
            if (check.wrong() != 0) {
                System.out.println("run " + seed + ":\n" + run.both.told());
            }
        }
        check.end();
    }

    /** In some runs TELLINGS come thick, so that all 30 and what lies beyond are met. */
    private void go(int thick) throws Exception {
        int before = check.wrong();
        while (both.calls() < CALLS && check.wrong() == before) {
            int what = random.nextInt(20);
            if (what < 1 + 3 * thick) {
                tellSomething();
            } else if (what < 13) {
                tellLaw();
            } else if (what < 14) {
                call("twice", random.nextInt(6), random.nextInt(6));
            } else {
                Method m = Both.METHODS.get(random.nextInt(Both.METHODS.size()));
                call(m, arguments(m));
            }
        }
    }

    private void call(Method m, Object... arguments) throws Exception {
        if (both.calls() < CALLS) {
            both.call(m, arguments);
        }
    }

    private void call(String name, Object... arguments) throws Exception {
        call(Both.named(name), arguments);
    }

    private void tellSomething() throws Exception {
        String text = text();
        for (int at = 0; at < text.length(); ) {
            int n = Math.min(1 + random.nextInt(8), text.length() - at);
            // What lies above the n bytes must not matter.
            long above = n == 8 ? 0 : random.nextLong() << (8 * n);
            call("feed", n, Texts.bytes(text, at, n) | above);
            at += n;
        }
        call("telling");
    }

    private String text() {
        StringBuilder text = new StringBuilder();
        if (random.nextInt(4) != 0) {
            text.append('s').append(random.nextInt(random.nextBoolean() ? 40 : 1000));
        }
        if (random.nextInt(4) != 0) {
            text.append('t').append(random.nextInt(random.nextBoolean() ? 40 : 1000));
        }
        if (random.nextInt(4) != 0) {
            text.append('c').append(random.nextInt(8));
        }
        int often = 1 + random.nextInt(5);
        for (char mark : "bhuwnmop".toCharArray()) {
            if (random.nextInt(often) == 0) {
                text.append(mark);
            }
        }
        text.append('@').append(random.nextInt(100));
        if (random.nextInt(3) == 0) {
            text.append('?');
        }
        return random.nextInt(5) == 0 ? spoiled(text) : text.toString();
    }

    private String spoiled(StringBuilder text) {
        String signs = "stcbhuwnmop@?0789x" + (char) 0 + (char) 128 + (char) 255 + (char) 0xf3;
        char sign = signs.charAt(random.nextInt(signs.length()));
        int at = random.nextInt(text.length());
        switch (random.nextInt(4)) {
            case 0:
                text.setCharAt(at, sign);
                break;
            case 1:
                text.insert(at, sign);
                break;
            case 2:
                text.deleteCharAt(at);
                break;
            default:
                text.setLength(at);
                break;
        }
        return text.toString();
    }

    private void tellLaw() throws Exception {
        int what = random.nextInt(7);
        int some = random.nextInt(random.nextBoolean() ? 30 : 1000);
        int[] values = {some / 4, some + 20, some / 4, some + 20, random.nextInt(256) | 1 << some % 8,
            1 << random.nextInt(8), random.nextInt(256) & random.nextInt(256)};
        call("law", random.nextInt(6), what,
                random.nextInt(8) == 0 ? new int[] {0, 999, 0, 999, 255, 0, 0}[what] : values[what]);
    }

    private Object[] arguments(Method m) {
        Class<?>[] types = m.getParameterTypes();
        Object[] arguments = new Object[types.length];
        for (int i = 0; i < types.length; i++) {
            if (types[i] == boolean.class) {
                arguments[i] = random.nextBoolean();
            } else if (types[i] == long.class) {
                arguments[i] = random.nextLong();
            } else {
                arguments[i] = number(Both.most(m, i));
            }
        }
        return arguments;
    }

    private int number(int most) {
        if (random.nextInt(12) == 0) {
            return ODD[random.nextInt(ODD.length)];
        }
        if (random.nextInt(12) == 0) {
            return random.nextBoolean() ? most : most + 1;
        }
        int bound = most == 29 && random.nextInt(4) != 0 ? 6 : most;
        return random.nextInt(bound + 1);
    }
}
