import java.util.function.Supplier;

/**
 * Each REFUSAL that a promise names: the call answers its number, the first in the order told;
 * just this one is counted, once; and nothing else changes, held against a room that was not asked.
 */
public final class RefusalsTest {
    private static final int LEAST = Integer.MIN_VALUE;
    private static final int GREATEST = Integer.MAX_VALUE;
    private static final int[] NO_TELLING = {-1, 3, 4, 29, 30, LEAST, GREATEST};
    private static final int[] NO_LAW = {-1, 6, 7, LEAST, GREATEST};
    private static final int[] NO_MARK = {-1, 8, 31, 32, LEAST, GREATEST};
    private static final int[] NO_RING = {-1, 10, LEAST, GREATEST};
    private static final int[] NOT_0_OR_1 = {-1, 2, LEAST, GREATEST};
    private static final int[] BELOW_0 = {-1, -9, LEAST};
    private static final Check CHECK = new Check();

    private interface Call {
        int ask(LightInRoom x);
    }

    public static void main(String[] args) {
        promise2Feed();
        promise3Telling();
        promise4TellingOf();
        promise7Law();
        promises9And10Growth();
        promise11Fits();
        promise12Share();
        promise16Sorts();
        promise18Together();
        promise19Twice();
        promise20Grows();
        promise21People();
        promise22Strokes();
        promise23Reach();
        promise26Beyond();
        promise29Bench();
        promise32Barred();
        promise33Glasses();
        promise35On();
        callsWithOneLaw();
        callsWithOneTelling();
        whatIsNoRefusal();
        CHECK.end();
    }

    /** A refusal in a room; those as told are above 0. */
    private static void no(String call, Supplier<LightInRoom> room, int want, Call made) {
        int number = want > 0 ? 1000000000 - want : want;
        ask(call, room, want, -number, made);
    }

    private static void no(String call, int want, Call made) {
        no(call, Rooms::some, want, made);
    }

    /** An answer that is none of the REFUSALS, though below 0: nothing is counted. */
    private static void counted(String call, Supplier<LightInRoom> room, int want, Call made) {
        ask(call, room, want, 0, made);
    }

    private static void ask(String call, Supplier<LightInRoom> room, int want, int kind, Call made) {
        LightInRoom asked = room.get();
        LightInRoom left = room.get();
        CHECK.due(call, made.ask(asked), want);
        for (int i = 1; i <= 6; i++) {
            CHECK.due(call + ": how many of -" + i, asked.count(10 + i),
                    left.count(10 + i) + (i == kind ? 1 : 0));
        }
        CHECK.holds(call + ": nothing else changes", Sight.of(asked).equals(Sight.of(left)));
    }

    private static LightInRoom room(int bytes) {
        LightInRoom x = new LightInRoom();
        for (int i = 0; i < bytes; i++) {
            x.feed(1, 'b');
        }
        return x;
    }

    private static void promise2Feed() {
        for (int n : new int[] {0, -1, -8, LEAST}) {
            no("2 feed -4, n " + n, -4, x -> x.feed(n, 'b'));
            no("2 feed -4 on a full tape, n " + n, () -> room(24), -4, x -> x.feed(n, 'b'));
        }
        for (int n : new int[] {9, 10, 24, GREATEST}) {
            no("2 feed -6, n " + n, Rooms::empty, -6, x -> x.feed(n, 'b'));
        }
        for (int n = 1; n <= 8; n++) {
            int many = n;
            no("2 feed -6 above 24, n " + n, () -> room(25 - many), -6, x -> x.feed(many, 'b'));
            no("2 feed -6 on a full tape, n " + n, () -> room(24), -6, x -> x.feed(many, 'b'));
        }
    }

    private static void promise3Telling() {
        no("3 telling -6 30", () -> Rooms.full("s7@5"), -6, LightInRoom::telling);
        no("3 telling -6 30, an empty tape", () -> Rooms.full(""), -6, LightInRoom::telling);
        no("3 telling -6 30, a fault", () -> Rooms.full("s7x"), -6, LightInRoom::telling);
        no("3 telling -6 30, a full tape", () -> Rooms.full("@".repeat(24)), -6,
                LightInRoom::telling);
    }

    private static void promise4TellingOf() {
        int[] others = {-1, 6, LEAST, GREATEST};
        for (int telling : NO_TELLING) {
            no("4 tellingOf -1, " + telling, -1, x -> x.tellingOf(telling, 0));
            no("4 tellingOf -1 before -2, " + telling, -1, x -> x.tellingOf(telling, 6));
        }
        for (int what : others) {
            no("4 tellingOf -2, " + what, -2, x -> x.tellingOf(2, what));
            no("4 tellingOf -1 without any", Rooms::empty, -1, x -> x.tellingOf(0, what));
        }
    }

    private static void promise7Law() {
        for (int law : NO_LAW) {
            no("7 law -1, " + law, -1, x -> x.law(law, 0, 0));
            no("7 law -1 before -2", -1, x -> x.law(law, 7, 0));
            no("7 law -1 before -4", -1, x -> x.law(law, 0, -1));
            no("7 law -1 before -6", -1, x -> x.law(law, 0, 1000));
        }
        for (int what : new int[] {-1, 7, 8, LEAST, GREATEST}) {
            no("7 law -2, " + what, -2, x -> x.law(0, what, 0));
            no("7 law -2 before -4", -2, x -> x.law(5, what, -1));
            no("7 law -2 before -6", -2, x -> x.law(5, what, 1000));
        }
        for (int i = 0; i < 7; i++) {
            int what = i;
            int most = what < 4 ? 999 : 255;
            for (int v : BELOW_0) {
                no("7 law -4, " + what + " " + v, -4, x -> x.law(what % 6, what, v));
            }
            for (int v : new int[] {most + 1, GREATEST}) {
                no("7 law -6, " + what + " " + v, -6, x -> x.law(what % 6, what, v));
            }
        }
    }

    private static void promises9And10Growth() {
        for (int what : NOT_0_OR_1) {
            no("9 growth -2, " + what, -2, x -> x.growth(what, 0));
            no("9 growth -2 before -4", -2, x -> x.growth(what, -1));
            no("9 growth -2 before -6", -2, x -> x.growth(what, 51));
            no("10 put -2, " + what, -2, x -> x.put(0, what));
            no("10 put -2 of a gap, " + what, -2, x -> x.put(1, what));
        }
        for (int i = 0; i < 2; i++) {
            int what = i;
            for (int v : BELOW_0) {
                no("9 growth -4, " + v, -4, x -> x.growth(what, v));
            }
            for (int v : new int[] {51, 100, GREATEST}) {
                no("9 growth -6, " + v, -6, x -> x.growth(what, v));
            }
        }
        for (int telling : NO_TELLING) {
            no("10 put -1, " + telling, -1, x -> x.put(telling, 1));
            no("10 put -1 before -2", -1, x -> x.put(telling, 2));
        }
    }

    private static void promise11Fits() {
        for (int telling : NO_TELLING) {
            no("11 fits -1, telling " + telling, -1, x -> x.fits(telling, 0));
            no("11 fits -1, both", -1, x -> x.fits(telling, 6));
        }
        for (int law : NO_LAW) {
            no("11 fits -1, law " + law, -1, x -> x.fits(0, law));
        }
    }

    private static void promise12Share() {
        for (int law : NO_LAW) {
            no("12 share -1, " + law, 1000000001, x -> x.share(law, 0));
            no("12 share -1 before -2", 1000000001, x -> x.share(law, 2));
            no("12 share -1 before -3", Rooms::empty, 1000000001, x -> x.share(law, 0));
        }
        for (int part : NOT_0_OR_1) {
            no("12 share -2, " + part, 1000000002, x -> x.share(0, part));
            no("12 share -2 before -3", Rooms::empty, 1000000002, x -> x.share(0, part));
        }
        for (int i = 0; i < 12; i++) {
            int at = i;
            no("12 share -3", Rooms::empty, 1000000003, x -> x.share(at / 2, at % 2));
        }
    }

    private static void promise16Sorts() {
        for (int what : NOT_0_OR_1) {
            no("16 sorts -2, " + what, -2, x -> x.sorts(what));
            no("16 sorts -2 without any, " + what, Rooms::empty, -2, x -> x.sorts(what));
        }
    }

    private static void promise18Together() {
        for (int mark : NO_MARK) {
            no("18 together -1, one " + mark, 1000000001, x -> x.together(mark, 0));
            no("18 together -1, other " + mark, 1000000001, x -> x.together(0, mark));
            no("18 together -1, both " + mark, 1000000001, x -> x.together(mark, mark));
            no("18 together -1 before -3", Rooms::empty, 1000000001, x -> x.together(0, mark));
        }
        no("18 together -3 without any", Rooms::empty, 1000000003, x -> x.together(0, 1));
        no("18 together -3, none has the first", 1000000003, x -> x.together(3, 0));
        no("18 together -3, none lacks the first", () -> Rooms.full(""), 1000000003,
                x -> x.together(0, 1));
        for (int i = 0; i < 8; i++) {
            int mark = i;
            no("18 together -3, with itself", () -> Rooms.full(""), 1000000003,
                    x -> x.together(mark, mark));
        }
    }

    private static void promise19Twice() {
        for (int telling : NO_TELLING) {
            no("19 twice -1, one " + telling, -1, x -> x.twice(telling, 0));
            no("19 twice -1, other " + telling, -1, x -> x.twice(0, telling));
            no("19 twice -1, both " + telling, -1, x -> x.twice(telling, telling));
        }
        no("19 twice -1 without any", Rooms::empty, -1, x -> x.twice(0, 1));
        no("19 twice -3, the same", -3, x -> x.twice(1, 1));
        no("19 twice -3, fewer years", -3, x -> x.twice(2, 1));
        no("19 twice -3, as many years", () -> Texts.room("@7", "s1@07?"), -3, x -> x.twice(0, 1));
        no("19 twice -6 10", () -> Rooms.full(""), -6, x -> x.twice(0, 11));
        no("19 twice -6 10, one of the pairs", () -> Rooms.full(""), -6, x -> x.twice(0, 1));
        no("19 twice -3 before -6", () -> Rooms.full(""), -3, x -> x.twice(5, 4));
        no("19 twice -1 before -6", () -> Rooms.full(""), -1, x -> x.twice(0, 30));
    }

    private static LightInRoom paired(String first, String second) {
        LightInRoom x = Texts.room(first, second);
        x.twice(0, 1);
        return x;
    }

    private static void promise20Grows() {
        for (int bad : NOT_0_OR_1) {
            no("20 grows -2, what " + bad, 1000000002, x -> x.grows(bad, 0));
            no("20 grows -2, part " + bad, 1000000002, x -> x.grows(1, bad));
            no("20 grows -2, both " + bad, 1000000002, x -> x.grows(bad, bad));
            no("20 grows -2 before -3", Rooms::empty, 1000000002, x -> x.grows(0, bad));
        }
        for (int i = 0; i < 4; i++) {
            int at = i;
            Call call = x -> x.grows(at / 2, at % 2);
            no("20 grows -3, no pairs", Rooms::empty, 1000000003, call);
            no("20 grows -3, no pairs of three", () -> Texts.room("s1t1@1", "s2t2@2", "@3"),
                    1000000003, call);
            no("20 grows -3, the first is 0", () -> paired("s0t0@1", "s5t5@2"), 1000000003, call);
            no("20 grows -3, the first is a gap", () -> paired("@1", "s5t5@2"), 1000000003, call);
            no("20 grows -3, the second is a gap", () -> paired("s5t5@1", "@2"), 1000000003, call);
        }
    }

    private static void promise21People() {
        for (int ring : NO_RING) {
            no("21 people -1, " + ring, -1, x -> x.people(ring, 0));
            no("21 people -1 before -4", -1, x -> x.people(ring, -1));
            no("21 people -1 before -6", -1, x -> x.people(ring, 1000));
        }
        for (int v : BELOW_0) {
            no("21 people -4, " + v, -4, x -> x.people(0, v));
            no("21 people -4, " + v, -4, x -> x.people(9, v));
        }
        for (int v : new int[] {1000, GREATEST}) {
            no("21 people -6, " + v, -6, x -> x.people(0, v));
            no("21 people -6, " + v, -6, x -> x.people(9, v));
        }
    }

    private static void promise22Strokes() {
        for (int v : BELOW_0) {
            no("22 strokes -4, " + v, -4, x -> x.strokes(v));
        }
        for (int v : new int[] {100, 999, GREATEST}) {
            no("22 strokes -6, " + v, -6, x -> x.strokes(v));
        }
    }

    private static void promise23Reach() {
        for (int law : NO_LAW) {
            no("23 reach -1, " + law, -1, x -> x.reach(law, 0));
            no("23 reach -1 before -4", -1, x -> x.reach(law, -1));
            no("23 reach -1 before -6", -1, x -> x.reach(law, 11));
        }
        for (int v : BELOW_0) {
            no("23 reach -4, " + v, -4, x -> x.reach(5, v));
        }
        for (int v : new int[] {11, GREATEST}) {
            no("23 reach -6, " + v, -6, x -> x.reach(5, v));
        }
    }

    private static void promise26Beyond() {
        for (int law : NO_LAW) {
            no("26 beyond -1, " + law, 1000000001, x -> x.beyond(law, 1));
            no("26 beyond -1 before -4", 1000000001, x -> x.beyond(law, 0));
            no("26 beyond -1 before -6", 1000000001, x -> x.beyond(law, 1000));
        }
        for (int many : new int[] {0, -1, LEAST}) {
            no("26 beyond -4, " + many, 1000000004, x -> x.beyond(0, many));
        }
        for (int many : new int[] {1000, GREATEST}) {
            no("26 beyond -6, " + many, 1000000006, x -> x.beyond(0, many));
        }
    }

    private static void promise29Bench() {
        for (int bad : new int[] {-1, 8, LEAST, GREATEST}) {
            no("29 bench -1, colour " + bad, -1, x -> x.bench(1, 1, bad, 1));
            no("29 bench -1 of colour before -4", -1, x -> x.bench(-1, 1, bad, 1));
            no("29 bench -1 of colour before -6", -1, x -> x.bench(1, 1000, bad, 1));
        }
        for (int bad : new int[] {-1, 256, LEAST, GREATEST}) {
            no("29 bench -1, marks " + bad, -1, x -> x.bench(1, 1, 1, bad));
            no("29 bench -1 of marks before -4", -1, x -> x.bench(1, -1, 1, bad));
            no("29 bench -1 of marks before -6", -1, x -> x.bench(1000, 1, 1, bad));
        }
        for (int bad : BELOW_0) {
            no("29 bench -4, size " + bad, -4, x -> x.bench(bad, 1, 1, 1));
            no("29 bench -4, seconds " + bad, -4, x -> x.bench(1, bad, 1, 1));
            no("29 bench -4 of size before -6", -4, x -> x.bench(bad, 1000, 1, 1));
            no("29 bench -4 of seconds before -6", -4, x -> x.bench(1000, bad, 1, 1));
        }
        for (int bad : new int[] {1000, GREATEST}) {
            no("29 bench -6, size " + bad, -6, x -> x.bench(bad, 1, 1, 1));
            no("29 bench -6, seconds " + bad, -6, x -> x.bench(1, bad, 1, 1));
        }
    }

    private static void promise32Barred() {
        for (int colours : new int[] {-1, 256, 257, LEAST, GREATEST}) {
            no("32 barred -1, " + colours, -1, x -> x.barred(colours));
        }
    }

    private static void promise33Glasses() {
        for (int law : NO_LAW) {
            no("33 glasses -1, " + law, -1, x -> x.glasses(law, 1));
            no("33 glasses -1 before -4", -1, x -> x.glasses(law, 0));
            no("33 glasses -1 before -6", -1, x -> x.glasses(law, 6));
        }
        for (int n : new int[] {0, -1, LEAST}) {
            no("33 glasses -4, " + n, -4, x -> x.glasses(0, n));
        }
        for (int n : new int[] {6, 10, GREATEST}) {
            no("33 glasses -6, " + n, -6, x -> x.glasses(0, n));
        }
    }

    private static void promise35On() {
        no("35 on -3, a new object", Rooms::empty, -3, LightInRoom::on);
        no("35 on -3, with tellings", () -> Texts.room("@1", "s1@2"), -3, LightInRoom::on);
        no("35 on -3 a second time", () -> {
            LightInRoom x = Texts.room("@1");
            x.on();
            return x;
        }, -3, LightInRoom::on);
    }

    private static void callsWithOneLaw() {
        for (int law : NO_LAW) {
            no("13 only -1, " + law, -1, x -> x.only(law));
            no("15 half -1, " + law, -1, x -> x.half(law));
            no("24 should -1, " + law, -1, x -> x.should(law));
            no("25 seen -1, " + law, -1, x -> x.seen(law));
            no("28 pictures -1, " + law, -1, x -> x.pictures(law));
            no("15 half -1 without any, " + law, Rooms::empty, -1, x -> x.half(law));
        }
    }

    private static void oneTelling(String which, Supplier<LightInRoom> room, int telling) {
        no("5 kind -1, " + which + telling, room, -1, x -> x.kind(telling));
        no("6 weight -1, " + which + telling, room, -1, x -> x.weight(telling));
        no("17 alike -1, " + which + telling, room, -1, x -> x.alike(telling));
        no("30 lines -1, " + which + telling, room, -1, x -> x.lines(telling));
        no("31 misses -1, " + which + telling, room, -1, x -> x.misses(telling));
    }

    private static void callsWithOneTelling() {
        for (int telling : NO_TELLING) {
            oneTelling("", Rooms::some, telling);
        }
        oneTelling("of none ", Rooms::empty, 0);
        oneTelling("of thirty ", () -> Rooms.full("@1"), 30);
        // What came behind THE IMAGE is nobody again.
        oneTelling("behind on ", () -> {
            LightInRoom x = Rooms.some();
            x.on();
            return x;
        }, 2);
    }

    private static void whatIsNoRefusal() {
        counted("10 put, a gap", Rooms::some, -9, x -> x.put(1, 0));
        counted("4 tellingOf, a gap", Rooms::some, -9, x -> x.tellingOf(1, 0));
        counted("27 leads without any", Rooms::empty, -9, LightInRoom::leads);
        counted("31 misses nothing", () -> Texts.room("@1"), -9, x -> x.misses(0));
        counted("3 a fault of an empty tape", Rooms::empty, -20, LightInRoom::telling);
        for (int what : new int[] {-1, 6, 7, 8, 9, 10, 17, 26, LEAST, GREATEST}) {
            counted("36 count, another what " + what, Rooms::some, -9, x -> x.count(what));
        }
        LightInRoom x = Texts.room("@1");
        Texts.feed(x, "s1t2u@x?");
        CHECK.due("3 a fault", x.telling(), -26);
        for (int what = 11; what <= 16; what++) {
            CHECK.due("3 nothing is counted for a fault", x.count(what), 0);
        }
        CHECK.due("3 behind a fault the tape has none, too", x.count(5), 0);
        CHECK.due("3 no telling comes of a fault", x.count(0), 1);
    }
}
