/**
 * What a TEXT may be and where its FAULT is, byte by byte: behind each beginning that can stand,
 * each of the 256 bytes and the end.
 */
public final class TextTest {
    private static final Check CHECK = new Check();
    private static final String DIGITS = "0123456789";
    private static final String MARKS = "bhuwnmop";

    private static void due(String call, long got, long want) {
        CHECK.due(call, got, want);
    }

    public static void main(String[] args) {
        behindNothing();
        behindSize();
        behindSeconds();
        behindColour();
        behindMarks();
        behindYears();
        numbersAreRead();
        marksAreRead();
        twoMarks();
        longTexts();
        CHECK.end();
    }

    private static int answer(String text) {
        return Texts.tell(new LightInRoom(), text);
    }

    /** Behind a beginning just these signs can stand, and the end only if it is whole. */
    private static void next(String start, String signs, boolean whole) {
        int place = start.length();
        due("the end behind '" + start + "'", answer(start), whole ? 0 : -20 - place);
        for (int sign = 0; sign < 256; sign++) {
            String text = start + (char) sign;
            int want = -20 - place;
            if (signs.indexOf((char) sign) >= 0) {
                boolean ends = text.indexOf('@') >= 0 && sign != '@';
                want = ends ? 0 : -20 - place - 1;
            }
            due("byte " + sign + " behind '" + start + "'", answer(text), want);
            // The first byte that can not stand is the FAULT, whatever comes behind it.
            if (want == -20 - place) {
                due("more behind the fault of " + text, answer(text + "@1"), want);
            }
        }
    }

    private static void behindNothing() {
        next("", "stc" + MARKS + "@", false);
    }

    private static void behindSize() {
        next("s", DIGITS, false);
        next("s0", DIGITS + "tc" + MARKS + "@", false);
        next("s99", DIGITS + "tc" + MARKS + "@", false);
        next("s000", "tc" + MARKS + "@", false);
        next("s999", "tc" + MARKS + "@", false);
    }

    private static void behindSeconds() {
        for (String size : new String[] {"", "s5", "s555"}) {
            next(size + "t", DIGITS, false);
            next(size + "t0", DIGITS + "c" + MARKS + "@", false);
            next(size + "t99", DIGITS + "c" + MARKS + "@", false);
            next(size + "t999", "c" + MARKS + "@", false);
        }
    }

    private static void behindColour() {
        for (String before : new String[] {"", "s5", "t5", "s5t5", "s555t555"}) {
            next(before + "c", "01234567", false);
            next(before + "c0", MARKS + "@", false);
            next(before + "c7", MARKS + "@", false);
        }
    }

    private static void behindMarks() {
        for (int i = 0; i < MARKS.length(); i++) {
            next(MARKS.substring(i, i + 1), MARKS.substring(i + 1) + "@", false);
            next(MARKS.substring(0, i + 1), MARKS.substring(i + 1) + "@", false);
            next("s1t2c3" + MARKS.charAt(i), MARKS.substring(i + 1) + "@", false);
        }
    }

    private static void behindYears() {
        for (String before : new String[] {"", "s5", "t5", "c5", "b", "p", "s999t999c7" + MARKS}) {
            next(before + "@", DIGITS, false);
            next(before + "@0", DIGITS + "?", true);
            next(before + "@9", DIGITS + "?", true);
            next(before + "@00", "?", true);
            next(before + "@99", "?", true);
            next(before + "@9?", "", true);
            next(before + "@99?", "", true);
        }
    }

    private static int told(String text, int what) {
        LightInRoom x = Texts.room(text);
        return x.tellingOf(0, what);
    }

    private static void numbersAreRead() {
        for (int v = 0; v <= 999; v++) {
            String padded = String.format("%03d", v);
            due("s" + v, told("s" + v + "@1", 0), v);
            due("t" + v, told("t" + v + "@1", 1), v);
            due("s" + padded, told("s" + padded + "@1", 0), v);
            due("t" + padded, told("t" + padded + "@1", 1), v);
        }
        for (int v = 0; v <= 99; v++) {
            due("@" + v, told("@" + v, 4), v);
            due("@ of two digits", told(String.format("@%02d?", v), 4), v);
            due("s of two digits", told(String.format("s%02d@1", v), 0), v);
        }
        for (int v = 0; v <= 7; v++) {
            due("c" + v, told("c" + v + "@1", 2), v);
        }
    }

    private static void marksAreRead() {
        for (int bits = 0; bits < 256; bits++) {
            StringBuilder text = new StringBuilder();
            for (int i = 0; i < 8; i++) {
                text.append((bits >> i & 1) == 1 ? MARKS.substring(i, i + 1) : "");
            }
            due("marks " + text, told(text + "@1", 3), bits);
            due("marks " + text + " with more", told("s1c2" + text + "@1?", 3), bits);
        }
    }

    private static void twoMarks() {
        for (int i = 0; i < 8; i++) {
            for (int j = 0; j < 8; j++) {
                String text = "" + MARKS.charAt(i) + MARKS.charAt(j) + "@1";
                due("each once, in this order: " + text, answer(text), i < j ? 0 : -21);
            }
        }
    }

    private static void longTexts() {
        String longest = "s999t999c7bhuwnmop@99?";
        due("the longest, 22 bytes", answer(longest), 0);
        due("a byte more", answer(longest + "?"), -42);
        due("24 bytes", answer(longest + "@1"), -42);
        due("24 bytes, the fault is early", answer("s1234567" + "12345678" + "12345678"), -24);
        due("24 bytes of 0", answer("\0".repeat(24)), -20);
        due("24 bytes of 255", answer("\u00ff".repeat(24)), -20);
    }
}
