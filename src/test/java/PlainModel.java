import java.util.ArrayList;
import java.util.List;
import java.util.regex.Matcher;
import java.util.regex.Pattern;

/**
 * The document a second time, as literally as it goes and without care for speed: what LightInRoom
 * answers is held against it. It shares no code and no way of counting with the class.
 */
public final class PlainModel {
    private static final Pattern TEXT = Pattern.compile(
            "(?:s([0-9]{1,3}))?(?:t([0-9]{1,3}))?(?:c([0-7]))?"
            + "(b?h?u?w?n?m?o?p?)@([0-9]{1,2})([?]?)");

    private record Told(int size, int seconds, int colour, String marks, int years, boolean asked) {
        boolean has(char mark) {
            return marks.indexOf(mark) >= 0;
        }

        boolean has(int mark) {
            return has("bhuwnmop".charAt(mark));
        }

        int bits() {
            int bits = 0;
            for (int i = 0; i < 8; i++) {
                bits += has(i) ? (int) Math.pow(2, i) : 0;
            }
            return bits;
        }

        int kind() {
            if (asked) {
                return 5;
            }
            if (has('m') && !has('o')) {
                return 3;
            }
            if (has('w') && has('n')) {
                return 2;
            }
            if (has('n')) {
                return 1;
            }
            return years >= 20 ? 4 : 0;
        }

        int weight() {
            int[] weights = {8, 15, 15 + Math.max(0, seconds), 5, 8 - years / 20, 1};
            return weights[kind()];
        }

        int of(int what) {
            return what == 0 ? size : seconds;
        }
    }

    private record Image(List<Told> tellings, int[][] laws, int[] growth, boolean right,
            List<int[]> pairs, int[] people, int strokes, int[] reaches, int[] bench) {
    }

    private String tape = "";
    private List<Told> tellings = new ArrayList<>();
    private int[][] laws = new int[6][];
    private int[] growth = new int[2];
    private boolean right = false;
    private List<int[]> pairs = new ArrayList<>();
    private int[] people = new int[10];
    private int strokes = 0;
    private int[] reaches = new int[6];
    private int[] bench = new int[4];
    private Image image = null;
    private final int[] refusals = new int[7];

    public PlainModel() {
        for (int i = 0; i < 6; i++) {
            laws[i] = new int[] {0, 999, 0, 999, 255, 0, 0};
            reaches[i] = 10;
        }
    }

    private int no(int number) {
        refusals[-number]++;
        return number;
    }

    private int noAsTold(int number) {
        return 1000000000 - no(number);
    }

    private boolean telling(int i) {
        return i >= 0 && i < tellings.size();
    }

    private boolean law(int i) {
        return i >= 0 && i <= 5;
    }

    public int feed(int n, long bytes) {
        if (n < 1) {
            return no(-4);
        }
        if (n > 8 || tape.length() + n > 24) {
            return no(-6);
        }
        long left = bytes;
        for (int i = 0; i < n; i++) {
            tape += (char) Math.floorMod(left, 256L);
            left = Math.floorDiv(left, 256L);
        }
        return tape.length();
    }

    private static boolean canGoOn(String start) {
        Matcher m = TEXT.matcher(start);
        return m.matches() || m.hitEnd();
    }

    public int telling() {
        if (tellings.size() == 30) {
            return no(-6);
        }
        String text = tape;
        tape = "";
        Matcher m = TEXT.matcher(text);
        if (!m.matches()) {
            int place = 0;
            while (place < text.length() && canGoOn(text.substring(0, place + 1))) {
                place++;
            }
            return -20 - place;
        }
        tellings.add(new Told(number(m.group(1)), number(m.group(2)), number(m.group(3)),
                m.group(4), number(m.group(5)), m.group(6).equals("?")));
        return tellings.size() - 1;
    }

    private static int number(String digits) {
        return digits == null ? -9 : Integer.parseInt(digits);
    }

    public int tellingOf(int telling, int what) {
        if (!telling(telling)) {
            return no(-1);
        }
        if (what < 0 || what > 5) {
            return no(-2);
        }
        Told t = tellings.get(telling);
        return new int[] {t.size, t.seconds, t.colour, t.bits(), t.years, t.asked ? 1 : 0}[what];
    }

    public int kind(int telling) {
        return telling(telling) ? tellings.get(telling).kind() : no(-1);
    }

    public int weight(int telling) {
        return telling(telling) ? tellings.get(telling).weight() : no(-1);
    }

    public int law(int law, int what, int v) {
        if (!law(law)) {
            return no(-1);
        }
        if (what < 0 || what > 6) {
            return no(-2);
        }
        if (v < 0) {
            return no(-4);
        }
        if (v > (what <= 3 ? 999 : 255)) {
            return no(-6);
        }
        int was = laws[law][what];
        laws[law][what] = v;
        return was;
    }

    public int right(boolean on) {
        int answer = right == on ? 0 : 1;
        right = on;
        return answer;
    }

    public int growth(int what, int v) {
        if (what < 0 || what > 1) {
            return no(-2);
        }
        if (v < 0) {
            return no(-4);
        }
        if (v > 50) {
            return no(-6);
        }
        int was = growth[what];
        growth[what] = v;
        return was;
    }

    private int putRight(Told t, int what) {
        return t.of(what) == -9 ? -9 : 100 * t.of(what) / (100 + growth[what] * t.years);
    }

    public int put(int telling, int what) {
        if (!telling(telling)) {
            return no(-1);
        }
        return what < 0 || what > 1 ? no(-2) : putRight(tellings.get(telling), what);
    }

    /** FITS, with some conditions (bits) given up. */
    private boolean fits(Told t, int law, int without) {
        int size = right ? putRight(t, 0) : t.size;
        int seconds = right ? putRight(t, 1) : t.seconds;
        int[] l = laws[law];
        boolean[] meets = {
            size == -9 || size >= l[0], size == -9 || size <= l[1],
            seconds == -9 || seconds >= l[2], seconds == -9 || seconds <= l[3],
            t.colour == -9 || (l[4] / (int) Math.pow(2, t.colour)) % 2 == 1, true, true};
        for (int i = 0; i < 8; i++) {
            int bit = (int) Math.pow(2, i);
            if ((l[5] / bit) % 2 == 1 && !t.has(i)) {
                meets[5] = false;
            }
            if ((l[6] / bit) % 2 == 1 && t.has(i)) {
                meets[6] = false;
            }
        }
        for (int i = 0; i < 7; i++) {
            if (!meets[i] && (without >> i) % 2 == 0) {
                return false;
            }
        }
        return true;
    }

    private boolean fits(Told t, int law) {
        return fits(t, law, 0);
    }

    private boolean fitsOnly(Told t, int law) {
        for (int i = 0; i < 6; i++) {
            if (fits(t, i) != (i == law)) {
                return false;
            }
        }
        return true;
    }

    public int fits(int telling, int law) {
        if (!telling(telling) || !law(law)) {
            return no(-1);
        }
        return fits(tellings.get(telling), law) ? 1 : 0;
    }

    private static int leastTerms(int above, int below, int part) {
        int a = above;
        int b = below;
        for (int d = below; d >= 2; d--) {
            if (a % d == 0 && b % d == 0) {
                a /= d;
                b /= d;
            }
        }
        return part == 0 ? a : b;
    }

    public int share(int law, int part) {
        if (!law(law)) {
            return noAsTold(-1);
        }
        if (part < 0 || part > 1) {
            return noAsTold(-2);
        }
        int all = tellings.stream().mapToInt(Told::weight).sum();
        if (all == 0) {
            return noAsTold(-3);
        }
        int some = tellings.stream().filter(t -> fits(t, law)).mapToInt(Told::weight).sum();
        return leastTerms(some, all, part);
    }

    public int only(int law) {
        return law(law) ? (int) tellings.stream().filter(t -> fitsOnly(t, law)).count() : no(-1);
    }

    public int cover() {
        for (int many = 0; many <= 6; many++) {
            for (int set = 0; set < 64; set++) {
                if (bits(set) == many && covers(set)) {
                    return set;
                }
            }
        }
        throw new IllegalStateException("all laws cover");
    }

    private static int bits(int set) {
        return Integer.toBinaryString(set).replace("0", "").length();
    }

    private boolean covers(int set) {
        for (Told t : tellings) {
            boolean any = false;
            boolean one = false;
            for (int i = 0; i < 6; i++) {
                any |= fits(t, i);
                one |= fits(t, i) && (set >> i) % 2 == 1;
            }
            if (any && !one) {
                return false;
            }
        }
        return true;
    }

    public int half(int law) {
        if (!law(law)) {
            return no(-1);
        }
        for (int many = 0; many <= 7; many++) {
            for (int set = 0; set < 128; set++) {
                int without = set;
                if (bits(set) == many && tellings.size()
                        <= 2 * tellings.stream().filter(t -> fits(t, law, without)).count()) {
                    return set;
                }
            }
        }
        throw new IllegalStateException("without a condition all fit");
    }

    private boolean areAlike(int one, int other) {
        for (int i = 0; i < 6; i++) {
            if (fits(tellings.get(one), i) != fits(tellings.get(other), i)) {
                return false;
            }
        }
        return true;
    }

    public int sorts(int what) {
        if (what < 0 || what > 1) {
            return no(-2);
        }
        List<List<Integer>> sorts = new ArrayList<>();
        for (int i = 0; i < tellings.size(); i++) {
            int telling = i;
            List<Integer> mine = sorts.stream().filter(s -> areAlike(s.get(0), telling))
                    .findFirst().orElse(null);
            if (mine == null) {
                mine = new ArrayList<>();
                sorts.add(mine);
            }
            mine.add(i);
        }
        return what == 0 ? sorts.size() : sorts.stream().mapToInt(List::size).max().orElse(0);
    }

    public int alike(int telling) {
        if (!telling(telling)) {
            return no(-1);
        }
        int first = 0;
        while (!areAlike(first, telling)) {
            first++;
        }
        return first;
    }

    public int together(int one, int other) {
        if (one < 0 || one > 7 || other < 0 || other > 7) {
            return noAsTold(-1);
        }
        List<Told> with = tellings.stream().filter(t -> t.has(one)).toList();
        List<Told> without = tellings.stream().filter(t -> !t.has(one)).toList();
        if (with.isEmpty() || without.isEmpty()) {
            return noAsTold(-3);
        }
        return (int) (100 * with.stream().filter(t -> t.has(other)).count() / with.size())
                - (int) (100 * without.stream().filter(t -> t.has(other)).count() / without.size());
    }

    public int twice(int one, int other) {
        if (!telling(one) || !telling(other)) {
            return no(-1);
        }
        if (tellings.get(one).years >= tellings.get(other).years) {
            return no(-3);
        }
        if (pairs.size() == 10) {
            return no(-6);
        }
        pairs.add(new int[] {one, other});
        return pairs.size();
    }

    public int grows(int what, int part) {
        if (what < 0 || what > 1 || part < 0 || part > 1) {
            return noAsTold(-2);
        }
        int first = 0;
        int second = 0;
        for (int[] pair : pairs) {
            int a = tellings.get(pair[0]).of(what);
            int b = tellings.get(pair[1]).of(what);
            if (a != -9 && b != -9) {
                first += a;
                second += b;
            }
        }
        return first == 0 ? noAsTold(-3) : leastTerms(second, first, part);
    }

    public int people(int ring, int v) {
        if (ring < 0 || ring > 9) {
            return no(-1);
        }
        if (v < 0) {
            return no(-4);
        }
        if (v > 999) {
            return no(-6);
        }
        int was = people[ring];
        people[ring] = v;
        return was;
    }

    public int strokes(int v) {
        if (v < 0) {
            return no(-4);
        }
        if (v > 99) {
            return no(-6);
        }
        int was = strokes;
        strokes = v;
        return was;
    }

    public int reach(int law, int v) {
        if (!law(law)) {
            return no(-1);
        }
        if (v < 0) {
            return no(-4);
        }
        if (v > 10) {
            return no(-6);
        }
        int was = reaches[law];
        reaches[law] = v;
        return was;
    }

    private int shown(int law) {
        int shown = 0;
        for (int ring = 0; ring < 10; ring++) {
            shown += ring < reaches[law] ? strokes * people[ring] : 0;
        }
        return shown;
    }

    public int should(int law) {
        return law(law) ? shown(law) : no(-1);
    }

    private int fitting(int law) {
        return (int) tellings.stream().filter(t -> fits(t, law)).count();
    }

    public int seen(int law) {
        return law(law) ? fitting(law) : no(-1);
    }

    public int beyond(int law, int many) {
        if (!law(law)) {
            return noAsTold(-1);
        }
        if (many < 1) {
            return noAsTold(-4);
        }
        return many > 999 ? noAsTold(-6) : fitting(law) * many - shown(law);
    }

    public int leads() {
        List<Told> asked = tellings.stream().filter(Told::asked).toList();
        List<Told> others = tellings.stream().filter(t -> !t.asked).toList();
        if (asked.isEmpty() || others.isEmpty()) {
            return -9;
        }
        int best = 0;
        int most = -1000;
        for (int i = 0; i < 6; i++) {
            int law = i;
            int lead = (int) (100 * asked.stream().filter(t -> fits(t, law)).count() / asked.size())
                    - (int) (100 * others.stream().filter(t -> fits(t, law)).count()
                            / others.size());
            if (lead > most) {
                most = lead;
                best = i;
            }
        }
        return best;
    }

    public int pictures(int law) {
        return law(law)
                ? (int) tellings.stream().filter(t -> t.has('p') && fitsOnly(t, law)).count()
                : no(-1);
    }

    public int bench(int size, int seconds, int colour, int marks) {
        if (colour < 0 || colour > 7 || marks < 0 || marks > 255) {
            return no(-1);
        }
        if (size < 0 || seconds < 0) {
            return no(-4);
        }
        if (size > 999 || seconds > 999) {
            return no(-6);
        }
        bench = new int[] {size, seconds, colour, marks};
        return 1;
    }

    private boolean hasLine(Told t, int line) {
        switch (line) {
            case 0:
                return t.size == -9 || bench[0] >= t.size;
            case 1:
                return t.seconds == -9 || bench[1] >= t.seconds;
            case 2:
                return t.colour == -9 || bench[2] == t.colour;
            default:
                return !t.has(line - 3) || (bench[3] >> (line - 3)) % 2 == 1;
        }
    }

    public int lines(int telling) {
        if (!telling(telling)) {
            return no(-1);
        }
        int many = 0;
        for (int line = 0; line <= 10; line++) {
            many += hasLine(tellings.get(telling), line) ? 1 : 0;
        }
        return many;
    }

    public int misses(int telling) {
        if (!telling(telling)) {
            return no(-1);
        }
        for (int line = 0; line <= 10; line++) {
            if (!hasLine(tellings.get(telling), line)) {
                return line;
            }
        }
        return -9;
    }

    public int barred(int colours) {
        if (colours < 0 || colours > 255) {
            return no(-1);
        }
        int barred = 0;
        for (int i = 0; i < 6; i++) {
            barred += (laws[i][4] & colours) == colours ? 0 : (int) Math.pow(2, i);
        }
        return barred;
    }

    public int glasses(int law, int n) {
        if (!law(law)) {
            return no(-1);
        }
        if (n < 1) {
            return no(-4);
        }
        if (n > 5) {
            return no(-6);
        }
        int best = -1;
        int most = -1;
        for (int set = 0; set < Math.pow(2, reaches[law]); set++) {
            int together = 0;
            for (int ring = 0; ring < 10; ring++) {
                together += (set >> ring) % 2 == 1 ? people[ring] : 0;
            }
            if (bits(set) == Math.min(n, reaches[law]) && together > most) {
                most = together;
                best = set;
            }
        }
        return best;
    }

    private static int[][] copy(int[][] rows) {
        int[][] copy = new int[rows.length][];
        for (int i = 0; i < rows.length; i++) {
            copy[i] = rows[i].clone();
        }
        return copy;
    }

    public int image() {
        image = new Image(new ArrayList<>(tellings), copy(laws), growth.clone(), right,
                new ArrayList<>(pairs), people.clone(), strokes, reaches.clone(), bench.clone());
        return tellings.size();
    }

    public int on() {
        if (image == null) {
            return no(-3);
        }
        tellings = new ArrayList<>(image.tellings);
        laws = copy(image.laws);
        growth = image.growth.clone();
        right = image.right;
        pairs = new ArrayList<>(image.pairs);
        people = image.people.clone();
        strokes = image.strokes;
        reaches = image.reaches.clone();
        bench = image.bench.clone();
        return tellings.size();
    }

    public int count(int what) {
        switch (what) {
            case 0:
                return tellings.size();
            case 1:
                return (int) tellings.stream().filter(Told::asked).count();
            case 2:
                return pairs.size();
            case 3:
                return tellings.stream().mapToInt(t -> (t.size == -9 ? 1 : 0)
                        + (t.seconds == -9 ? 1 : 0) + (t.colour == -9 ? 1 : 0)).sum();
            case 4:
                return tellings.stream().mapToInt(t -> t.marks.length()).sum();
            case 5:
                return tape.length();
            default:
                return what >= 11 && what <= 16 ? refusals[what - 10] : -9;
        }
    }
}
