/**
 * A light that comes into a room: tellings of it, laws of what it can be, and what the ones say
 * of the others. The words in capitals are those of the document.
 *
 * <p>All rows are made in the constructor and used again; a call makes no object but the one
 * TELLING that telling() keeps.
 */
public final class LightInRoom {
    private static final int NOBODY = -1;
    private static final int OTHER = -2;
    private static final int STATE = -3;
    private static final int BELOW = -4;
    private static final int ROOM = -6;
    private static final int REFUSAL_KINDS = 6;
    private static final int FIRST_REFUSAL_COUNT = 11;
    /** Some answers may be below 0 themselves; their refusals are this less the number. */
    private static final int AS_TOLD = 1000000000;

    private static final int GAP = -9;
    private static final int NONE = -9;
    private static final int FAULT = -20;

    private static final int BYTES_AT_ONCE = 8;
    private static final int TAPE_BYTES = 24;
    private static final int TELLINGS = 30;
    private static final int LAWS = 6;
    private static final int PAIRS = 10;
    private static final int RINGS = 10;
    private static final int MOST_GLASSES = 5;
    private static final int MOST_NUMBER = 999;
    private static final int MOST_STROKES = 99;
    private static final int MOST_GROWTH = 50;
    private static final int MOST_COLOUR = 7;
    private static final int ALL_BITS = 255;
    private static final int GROWN_YEARS = 20;

    private static final int SIZE = 0;
    private static final int SECONDS = 1;

    private static final int SIZE_FROM = 0;
    private static final int SIZE_TO = 1;
    private static final int SECONDS_FROM = 2;
    private static final int SECONDS_TO = 3;
    private static final int COLOURS = 4;
    private static final int NEEDS = 5;
    private static final int BARS = 6;
    private static final int CONDITIONS = 7;

    private static final String MARK_SIGNS = "bhuwnmop";
    private static final int MARKS = 8;
    private static final int WINDOW = 3;
    private static final int NEAR_STROKE = 4;
    private static final int MIDDLE = 5;
    private static final int OTHERS = 6;
    private static final int PICTURE = 7;

    private static final int COLOUR_LINE = 2;
    private static final int FIRST_MARK_LINE = 3;
    private static final int BENCH_LINES = 11;

    private final Tape tape;
    private final Room now;
    private final Room then;
    private final int[] refusals;
    /** One number for each TELLING, filled anew by each call that reads it. */
    private final int[] notes;
    private boolean taken;

    public LightInRoom() {
        tape = new Tape();
        now = new Room();
        then = new Room();
        refusals = new int[REFUSAL_KINDS + 1];
        notes = new int[TELLINGS];
        taken = false;
    }

    // ---- TELLINGS

    public int feed(int n, long bytes) {
        if (n < 1) {
            return refuse(BELOW);
        }
        if (n > BYTES_AT_ONCE || n > tape.roomLeft()) {
            return refuse(ROOM);
        }
        tape.add(n, bytes);
        return tape.length;
    }

    public int telling() {
        if (now.tellingCount >= TELLINGS) {
            return refuse(ROOM);
        }
        boolean whole = tape.read();
        tape.clear();
        return whole ? now.addTelling(tape.newTelling()) : FAULT - tape.place;
    }

    public int tellingOf(int telling, int what) {
        Telling one = now.tellingAt(telling);
        if (one == null) {
            return refuse(NOBODY);
        }
        switch (what) {
            case 0:
                return one.size;
            case 1:
                return one.seconds;
            case 2:
                return one.colour;
            case 3:
                return one.marks;
            case 4:
                return one.years;
            case 5:
                return one.asked ? 1 : 0;
            default:
                return refuse(OTHER);
        }
    }

    public int kind(int telling) {
        Telling one = now.tellingAt(telling);
        return one == null ? refuse(NOBODY) : one.kindNumber();
    }

    public int weight(int telling) {
        Telling one = now.tellingAt(telling);
        return one == null ? refuse(NOBODY) : one.ownWeight();
    }

    // ---- LAWS

    public int law(int law, int what, int v) {
        Law one = now.lawAt(law);
        if (one == null) {
            return refuse(NOBODY);
        }
        if (what < 0 || what >= CONDITIONS) {
            return refuse(OTHER);
        }
        int most = what < COLOURS ? MOST_NUMBER : ALL_BITS;
        int bad = outside(v, 0, most);
        return bad != 0 ? refuse(bad) : exchange(one.conditions, what, v);
    }

    public int right(boolean on) {
        if (now.putsRight == on) {
            return 0;
        }
        now.putsRight = on;
        return 1;
    }

    public int growth(int what, int v) {
        if (!isSizeOrSeconds(what)) {
            return refuse(OTHER);
        }
        int bad = outside(v, 0, MOST_GROWTH);
        return bad != 0 ? refuse(bad) : exchange(now.growths, what, v);
    }

    public int put(int telling, int what) {
        Telling one = now.tellingAt(telling);
        if (one == null) {
            return refuse(NOBODY);
        }
        return isSizeOrSeconds(what) ? now.rightNumber(one, what) : refuse(OTHER);
    }

    public int fits(int telling, int law) {
        Telling one = now.tellingAt(telling);
        Law rule = now.lawAt(law);
        if (one == null || rule == null) {
            return refuse(NOBODY);
        }
        return now.brokenBy(one, rule) == 0 ? 1 : 0;
    }

    // ---- What TELLINGS and LAWS say of one another

    public int share(int law, int part) {
        Law rule = now.lawAt(law);
        if (rule == null) {
            return refuseAsTold(NOBODY);
        }
        if (!isPart(part)) {
            return refuseAsTold(OTHER);
        }
        int fitting = 0;
        int all = 0;
        for (Telling one : now.tellings) {
            if (one != null) {
                int own = one.ownWeight();
                all += own;
                fitting += now.brokenBy(one, rule) == 0 ? own : 0;
            }
        }
        return all == 0 ? refuseAsTold(STATE) : leastTerms(fitting, all, part);
    }

    public int only(int law) {
        return now.lawAt(law) == null ? refuse(NOBODY) : howManyFitOnly(law, 0);
    }

    public int cover() {
        noteLaws();
        int best = (1 << LAWS) - 1;
        for (int set = 0; set < 1 << LAWS; set++) {
            // Only fewer ones take the place: so of several the least as bits stays.
            if (Integer.bitCount(set) < Integer.bitCount(best) && coversAll(set)) {
                best = set;
            }
        }
        return best;
    }

    public int half(int law) {
        Law rule = now.lawAt(law);
        if (rule == null) {
            return refuse(NOBODY);
        }
        noteBroken(rule);
        int best = (1 << CONDITIONS) - 1;
        for (int set = 0; set < 1 << CONDITIONS; set++) {
            // Only fewer ones take the place: so of several the least as bits stays.
            if (Integer.bitCount(set) < Integer.bitCount(best) && halfFitsWithout(set)) {
                best = set;
            }
        }
        return best;
    }

    public int sorts(int what) {
        if (what != 0 && what != 1) {
            return refuse(OTHER);
        }
        noteLaws();
        int many = 0;
        int greatest = 0;
        for (int i = 0; i < now.tellingCount; i++) {
            if (firstNotedLike(i) == i) {
                many++;
                greatest = Math.max(greatest, howManyNotedLike(i));
            }
        }
        return what == 0 ? many : greatest;
    }

    public int alike(int telling) {
        if (now.tellingAt(telling) == null) {
            return refuse(NOBODY);
        }
        noteLaws();
        return firstNotedLike(telling);
    }

    public int together(int one, int other) {
        if (!isMark(one) || !isMark(other)) {
            return refuseAsTold(NOBODY);
        }
        int having = 0;
        int havingBoth = 0;
        int lacking = 0;
        int lackingFirst = 0;
        for (Telling told : now.tellings) {
            if (told != null) {
                int second = told.has(other) ? 1 : 0;
                if (told.has(one)) {
                    having++;
                    havingBoth += second;
                } else {
                    lacking++;
                    lackingFirst += second;
                }
            }
        }
        if (having == 0 || lacking == 0) {
            return refuseAsTold(STATE);
        }
        return hundredths(havingBoth, having) - hundredths(lackingFirst, lacking);
    }

    // ---- TOLD TWICE

    public int twice(int one, int other) {
        Telling first = now.tellingAt(one);
        Telling second = now.tellingAt(other);
        if (first == null || second == null) {
            return refuse(NOBODY);
        }
        if (second.years <= first.years) {
            return refuse(STATE);
        }
        return now.pairCount >= PAIRS ? refuse(ROOM) : now.addPair(first, second);
    }

    public int grows(int what, int part) {
        if (!isSizeOrSeconds(what) || !isPart(part)) {
            return refuseAsTold(OTHER);
        }
        int before = 0;
        int after = 0;
        for (int i = 0; i < now.pairCount; i++) {
            Telling first = now.firstOfPair(i);
            Telling second = now.secondOfPair(i);
            if (first != null && second != null && !first.lacks(what) && !second.lacks(what)) {
                before += first.numberTold(what);
                after += second.numberTold(what);
            }
        }
        return before == 0 ? refuseAsTold(STATE) : leastTerms(after, before, part);
    }

    // ---- NEAR a stroke

    public int people(int ring, int v) {
        if (ring < 0 || ring >= RINGS) {
            return refuse(NOBODY);
        }
        int bad = outside(v, 0, MOST_NUMBER);
        return bad != 0 ? refuse(bad) : exchange(now.ringPeople, ring, v);
    }

    public int strokes(int v) {
        int bad = outside(v, 0, MOST_STROKES);
        if (bad != 0) {
            return refuse(bad);
        }
        int was = now.strokeCount;
        now.strokeCount = v;
        return was;
    }

    public int reach(int law, int v) {
        Law one = now.lawAt(law);
        if (one == null) {
            return refuse(NOBODY);
        }
        int bad = outside(v, 0, RINGS);
        if (bad != 0) {
            return refuse(bad);
        }
        int was = one.ringsReached;
        one.ringsReached = v;
        return was;
    }

    public int should(int law) {
        Law one = now.lawAt(law);
        return one == null ? refuse(NOBODY) : now.shownTo(one);
    }

    public int seen(int law) {
        Law one = now.lawAt(law);
        return one == null ? refuse(NOBODY) : now.howManyFit(one);
    }

    public int beyond(int law, int many) {
        Law one = now.lawAt(law);
        if (one == null) {
            return refuseAsTold(NOBODY);
        }
        int bad = outside(many, 1, MOST_NUMBER);
        if (bad != 0) {
            return refuseAsTold(bad);
        }
        return now.howManyFit(one) * many - now.shownTo(one);
    }

    // ---- The asker, pictures, the BENCH, the ROW of colours, GLASSES

    public int leads() {
        int asked = now.howManyAsked();
        int others = now.tellingCount - asked;
        if (asked == 0 || others == 0) {
            return NONE;
        }
        int best = NONE;
        int bestLead = 0;
        for (int i = 0; i < LAWS; i++) {
            Law one = now.lawAt(i);
            if (one != null) {
                int fitting = now.howManyFit(one);
                int askedFitting = now.howManyAskedFit(one);
                int lead = hundredths(askedFitting, asked)
                        - hundredths(fitting - askedFitting, others);
                if (best == NONE || lead > bestLead) {
                    best = i;
                    bestLead = lead;
                }
            }
        }
        return best;
    }

    public int pictures(int law) {
        return now.lawAt(law) == null ? refuse(NOBODY) : howManyFitOnly(law, 1 << PICTURE);
    }

    public int bench(int size, int seconds, int colour, int marks) {
        if (colour < 0 || colour > MOST_COLOUR || marks < 0 || marks > ALL_BITS) {
            return refuse(NOBODY);
        }
        if (size < 0 || seconds < 0) {
            return refuse(BELOW);
        }
        if (size > MOST_NUMBER || seconds > MOST_NUMBER) {
            return refuse(ROOM);
        }
        now.benchMade.tell(size, seconds, colour, marks);
        return 1;
    }

    public int lines(int telling) {
        Telling one = now.tellingAt(telling);
        if (one == null) {
            return refuse(NOBODY);
        }
        return BENCH_LINES - Integer.bitCount(now.benchMade.linesLacking(one));
    }

    public int misses(int telling) {
        Telling one = now.tellingAt(telling);
        if (one == null) {
            return refuse(NOBODY);
        }
        int lacking = now.benchMade.linesLacking(one);
        for (int line = 0; line < BENCH_LINES; line++) {
            if (hasBit(lacking, line)) {
                return line;
            }
        }
        return NONE;
    }

    public int barred(int colours) {
        if (colours < 0 || colours > ALL_BITS) {
            return refuse(NOBODY);
        }
        int bits = 0;
        for (int i = 0; i < LAWS; i++) {
            Law one = now.lawAt(i);
            if (one != null && (colours & ~one.conditions[COLOURS]) != 0) {
                bits |= 1 << i;
            }
        }
        return bits;
    }

    public int glasses(int law, int n) {
        Law one = now.lawAt(law);
        if (one == null) {
            return refuse(NOBODY);
        }
        int bad = outside(n, 1, MOST_GLASSES);
        if (bad != 0) {
            return refuse(bad);
        }
        int rings = 0;
        for (int i = 0; i < n; i++) {
            int ring = now.fullestRing(one.ringsReached, rings);
            if (ring >= 0) {
                rings |= 1 << ring;
            }
        }
        return rings;
    }

    // ---- THE IMAGE and counts

    public int image() {
        then.becomeLike(now);
        taken = true;
        return now.tellingCount;
    }

    public int on() {
        if (!taken) {
            return refuse(STATE);
        }
        now.becomeLike(then);
        return now.tellingCount;
    }

    public int count(int what) {
        switch (what) {
            case 0:
                return now.tellingCount;
            case 1:
                return now.howManyAsked();
            case 2:
                return now.pairCount;
            case 3:
                return now.howManyGaps();
            case 4:
                return now.howManyMarks();
            case 5:
                return tape.length;
            default:
                return refusalsCounted(what);
        }
    }

    // ---- Refusals

    private int refuse(int number) {
        int place = -number;
        if (place >= 0 && place < refusals.length) {
            refusals[place]++;
        }
        return number;
    }

    private int refuseAsTold(int number) {
        return AS_TOLD - refuse(number);
    }

    private int refusalsCounted(int what) {
        // The counts' numbers run on from -1, so -1's place in the row is the first one's.
        if (what < FIRST_REFUSAL_COUNT || what >= FIRST_REFUSAL_COUNT + REFUSAL_KINDS) {
            return NONE;
        }
        return refusals[what - FIRST_REFUSAL_COUNT + 1];
    }

    private static int outside(int v, int least, int most) {
        if (v < least) {
            return BELOW;
        }
        return v > most ? ROOM : 0;
    }

    private static boolean isSizeOrSeconds(int what) {
        return what == SIZE || what == SECONDS;
    }

    private static boolean isPart(int part) {
        return part == 0 || part == 1;
    }

    private static boolean isMark(int mark) {
        return mark >= 0 && mark < MARKS;
    }

    // ---- Numbers

    private static boolean hasBit(int bits, int place) {
        return (bits >> place & 1) != 0;
    }

    private static int exchange(int[] row, int place, int v) {
        if (place < 0 || place >= row.length) {
            return NONE;
        }
        int was = row[place];
        row[place] = v;
        return was;
    }

    private static int hundredths(int some, int all) {
        return all < 1 ? 0 : 100 * some / all;
    }

    private static int leastTerms(int above, int below, int part) {
        int common = greatestCommon(above, below);
        if (common < 1) {
            return 0;
        }
        return (part == 0 ? above : below) / common;
    }

    private static int greatestCommon(int one, int other) {
        int a = one;
        int b = other;
        // Two ints are through in under 50 steps.
        for (int step = 0; step < 64 && b != 0; step++) {
            int rest = a % b;
            a = b;
            b = rest;
        }
        return a;
    }

    private static void copyRow(int[] from, int[] to) {
        System.arraycopy(from, 0, to, 0, Math.min(from.length, to.length));
    }

    // ---- Over all TELLINGS

    private int howManyFitOnly(int law, int marksNeeded) {
        int many = 0;
        for (Telling one : now.tellings) {
            if (one != null && (one.marks & marksNeeded) == marksNeeded
                    && now.lawsFitted(one) == 1 << law) {
                many++;
            }
        }
        return many;
    }

    private void noteLaws() {
        for (int i = 0; i < now.tellingCount && i < notes.length; i++) {
            Telling one = now.tellingAt(i);
            notes[i] = one == null ? 0 : now.lawsFitted(one);
        }
    }

    private void noteBroken(Law rule) {
        for (int i = 0; i < now.tellingCount && i < notes.length; i++) {
            Telling one = now.tellingAt(i);
            notes[i] = one == null ? 0 : now.brokenBy(one, rule);
        }
    }

    private boolean coversAll(int set) {
        for (int i = 0; i < now.tellingCount && i < notes.length; i++) {
            if (notes[i] != 0 && (notes[i] & set) == 0) {
                return false;
            }
        }
        return true;
    }

    private boolean halfFitsWithout(int set) {
        int fitting = 0;
        for (int i = 0; i < now.tellingCount && i < notes.length; i++) {
            if ((notes[i] & ~set) == 0) {
                fitting++;
            }
        }
        return 2 * fitting >= now.tellingCount;
    }

    private int firstNotedLike(int telling) {
        for (int i = 0; i < telling && telling < notes.length; i++) {
            if (notes[i] == notes[telling]) {
                return i;
            }
        }
        return telling;
    }

    private int howManyNotedLike(int telling) {
        int many = 0;
        for (int i = 0; i < now.tellingCount && i < notes.length; i++) {
            if (telling >= 0 && telling < notes.length && notes[i] == notes[telling]) {
                many++;
            }
        }
        return many;
    }

    // ---- What it is made of

    /** THE TAPE, and what was read from it last. */
    private static final class Tape {
        private static final int END = -1;
        private static final int NUMBER_DIGITS = 3;
        private static final int YEARS_DIGITS = 2;

        final int[] bytes;
        int length;
        /** Where reading stands; behind a read that failed, the place of its FAULT. */
        int place;
        int size;
        int seconds;
        int colour;
        int marks;
        int years;
        boolean asked;

        Tape() {
            bytes = new int[TAPE_BYTES];
        }

        int roomLeft() {
            return bytes.length - length;
        }

        void add(int n, long more) {
            for (int i = 0; i < n && length >= 0 && length < bytes.length; i++) {
                bytes[length] = (int) (more >>> (8 * i) & 255);
                length++;
            }
        }

        void clear() {
            length = 0;
        }

        boolean read() {
            place = 0;
            return readSize() && readSeconds() && readColour()
                    && readMarks() && readYears() && readAsked();
        }

        Telling newTelling() {
            if (asked) {
                return new Called(this);
            }
            if (hasBit(marks, MIDDLE) && !hasBit(marks, OTHERS)) {
                return new Eye(this);
            }
            if (hasBit(marks, WINDOW) && hasBit(marks, NEAR_STROKE)) {
                return new Through(this);
            }
            if (hasBit(marks, NEAR_STROKE)) {
                return new Near(this);
            }
            return years >= GROWN_YEARS ? new Grown(this) : new Without(this);
        }

        private int byteHere() {
            return place >= 0 && place < length && place < bytes.length ? bytes[place] : END;
        }

        private boolean passes(char sign) {
            if (byteHere() != sign) {
                return false;
            }
            place++;
            return true;
        }

        private boolean digitHere() {
            return byteHere() >= '0' && byteHere() <= '9';
        }

        /** A number of 1 to most digits, or GAP where no digit stands. */
        private int readNumber(int most) {
            if (!digitHere()) {
                return GAP;
            }
            int number = 0;
            for (int i = 0; i < most && digitHere(); i++) {
                number = 10 * number + byteHere() - '0';
                place++;
            }
            return number;
        }

        private boolean readSize() {
            size = GAP;
            if (!passes('s')) {
                return true;
            }
            size = readNumber(NUMBER_DIGITS);
            return size != GAP;
        }

        private boolean readSeconds() {
            seconds = GAP;
            if (!passes('t')) {
                return true;
            }
            seconds = readNumber(NUMBER_DIGITS);
            return seconds != GAP;
        }

        private boolean readColour() {
            colour = GAP;
            if (!passes('c')) {
                return true;
            }
            if (byteHere() < '0' || byteHere() > '7') {
                return false;
            }
            colour = readNumber(1);
            return true;
        }

        private boolean readMarks() {
            marks = 0;
            for (int i = 0; i < MARKS && i < MARK_SIGNS.length(); i++) {
                if (passes(MARK_SIGNS.charAt(i))) {
                    marks |= 1 << i;
                }
            }
            return true;
        }

        private boolean readYears() {
            if (!passes('@')) {
                return false;
            }
            years = readNumber(YEARS_DIGITS);
            return years != GAP;
        }

        private boolean readAsked() {
            asked = passes('?');
            return byteHere() == END;
        }
    }

    /** A TELLING never changes, so THE IMAGE may hold the same one. */
    private abstract static class Telling {
        final int size;
        final int seconds;
        final int colour;
        final int marks;
        final int years;
        final boolean asked;

        Telling(Tape read) {
            size = read.size;
            seconds = read.seconds;
            colour = read.colour;
            marks = read.marks;
            years = read.years;
            asked = read.asked;
        }

        abstract int kindNumber();

        abstract int ownWeight();

        final boolean has(int mark) {
            return hasBit(marks, mark);
        }

        final int numberTold(int what) {
            return what == SIZE ? size : seconds;
        }

        final boolean lacks(int what) {
            return numberTold(what) == GAP;
        }

        final int gaps() {
            return (size == GAP ? 1 : 0) + (seconds == GAP ? 1 : 0) + (colour == GAP ? 1 : 0);
        }
    }

    private static class Without extends Telling {
        Without(Tape read) {
            super(read);
        }

        int kindNumber() {
            return 0;
        }

        int ownWeight() {
            return 8;
        }
    }

    private static final class Grown extends Without {
        Grown(Tape read) {
            super(read);
        }

        int kindNumber() {
            return 4;
        }

        int ownWeight() {
            return super.ownWeight() - years / GROWN_YEARS;
        }
    }

    private static class Near extends Telling {
        Near(Tape read) {
            super(read);
        }

        int kindNumber() {
            return 1;
        }

        int ownWeight() {
            return 15;
        }
    }

    private static final class Through extends Near {
        Through(Tape read) {
            super(read);
        }

        int kindNumber() {
            return 2;
        }

        int ownWeight() {
            return super.ownWeight() + (seconds == GAP ? 0 : seconds);
        }
    }

    private static final class Eye extends Telling {
        Eye(Tape read) {
            super(read);
        }

        int kindNumber() {
            return 3;
        }

        int ownWeight() {
            return 5;
        }
    }

    private static final class Called extends Telling {
        Called(Tape read) {
            super(read);
        }

        int kindNumber() {
            return 5;
        }

        int ownWeight() {
            return 1;
        }
    }

    private static final class Law {
        final int[] conditions;
        int ringsReached;

        Law() {
            conditions = new int[CONDITIONS];
            conditions[SIZE_TO] = MOST_NUMBER;
            conditions[SECONDS_TO] = MOST_NUMBER;
            conditions[COLOURS] = ALL_BITS;
            ringsReached = RINGS;
        }

        void becomeLike(Law other) {
            copyRow(other.conditions, conditions);
            ringsReached = other.ringsReached;
        }

        /** The conditions (bits) that keep a TELLING from it; size and seconds as they are held. */
        int brokenBy(Telling one, int size, int seconds) {
            int bits = 0;
            if (size != GAP) {
                bits |= size < conditions[SIZE_FROM] ? 1 << SIZE_FROM : 0;
                bits |= size > conditions[SIZE_TO] ? 1 << SIZE_TO : 0;
            }
            if (seconds != GAP) {
                bits |= seconds < conditions[SECONDS_FROM] ? 1 << SECONDS_FROM : 0;
                bits |= seconds > conditions[SECONDS_TO] ? 1 << SECONDS_TO : 0;
            }
            if (one.colour != GAP && !hasBit(conditions[COLOURS], one.colour)) {
                bits |= 1 << COLOURS;
            }
            bits |= (conditions[NEEDS] & ~one.marks) != 0 ? 1 << NEEDS : 0;
            bits |= (conditions[BARS] & one.marks) != 0 ? 1 << BARS : 0;
            return bits;
        }
    }

    private static final class Bench {
        int size;
        int seconds;
        int colour;
        int marks;

        void tell(int newSize, int newSeconds, int newColour, int newMarks) {
            size = newSize;
            seconds = newSeconds;
            colour = newColour;
            marks = newMarks;
        }

        /** The LINES (bits) that it has not. A GAP is below 0, so it lacks no number's line. */
        int linesLacking(Telling one) {
            int bits = (one.marks & ~marks) << FIRST_MARK_LINE;
            bits |= size < one.size ? 1 << SIZE : 0;
            bits |= seconds < one.seconds ? 1 << SECONDS : 0;
            bits |= one.colour != GAP && one.colour != colour ? 1 << COLOUR_LINE : 0;
            return bits;
        }
    }

    /** All that THE IMAGE holds. */
    private static final class Room {
        /** Behind the last TELLING the row holds null. */
        final Telling[] tellings;
        final Law[] laws;
        final Telling[] pairFirsts;
        final Telling[] pairSeconds;
        final int[] growths;
        final int[] ringPeople;
        final Bench benchMade;
        int tellingCount;
        int pairCount;
        int strokeCount;
        boolean putsRight;

        Room() {
            tellings = new Telling[TELLINGS];
            laws = new Law[LAWS];
            for (int i = 0; i < laws.length; i++) {
                laws[i] = new Law();
            }
            pairFirsts = new Telling[PAIRS];
            pairSeconds = new Telling[PAIRS];
            growths = new int[2];
            ringPeople = new int[RINGS];
            benchMade = new Bench();
        }

        void becomeLike(Room other) {
            copyTellings(other.tellings, tellings);
            copyTellings(other.pairFirsts, pairFirsts);
            copyTellings(other.pairSeconds, pairSeconds);
            for (int i = 0; i < LAWS; i++) {
                Law mine = lawAt(i);
                Law its = other.lawAt(i);
                if (mine != null && its != null) {
                    mine.becomeLike(its);
                }
            }
            copyRow(other.growths, growths);
            copyRow(other.ringPeople, ringPeople);
            Bench its = other.benchMade;
            benchMade.tell(its.size, its.seconds, its.colour, its.marks);
            tellingCount = other.tellingCount;
            pairCount = other.pairCount;
            strokeCount = other.strokeCount;
            putsRight = other.putsRight;
        }

        private static void copyTellings(Telling[] from, Telling[] to) {
            for (int i = 0; i < from.length && i < to.length; i++) {
                to[i] = from[i];
            }
        }

        Telling tellingAt(int i) {
            return i < tellingCount ? inRow(tellings, i) : null;
        }

        Telling firstOfPair(int i) {
            return i < pairCount ? inRow(pairFirsts, i) : null;
        }

        Telling secondOfPair(int i) {
            return i < pairCount ? inRow(pairSeconds, i) : null;
        }

        private static Telling inRow(Telling[] row, int i) {
            return i >= 0 && i < row.length ? row[i] : null;
        }

        Law lawAt(int i) {
            return i >= 0 && i < laws.length ? laws[i] : null;
        }

        int addTelling(Telling one) {
            if (tellingCount < 0 || tellingCount >= tellings.length) {
                return NONE;
            }
            tellings[tellingCount] = one;
            tellingCount++;
            return tellingCount - 1;
        }

        int addPair(Telling first, Telling second) {
            if (pairCount >= 0 && pairCount < pairFirsts.length && pairCount < pairSeconds.length) {
                pairFirsts[pairCount] = first;
                pairSeconds[pairCount] = second;
                pairCount++;
            }
            return pairCount;
        }

        /** SIZE or SECONDS put RIGHT, or GAP. */
        int rightNumber(Telling one, int what) {
            if (one.lacks(what) || what < 0 || what >= growths.length) {
                return GAP;
            }
            int grown = 100 + growths[what] * one.years;
            return grown < 1 ? GAP : 100 * one.numberTold(what) / grown;
        }

        private int heldNumber(Telling one, int what) {
            return putsRight ? rightNumber(one, what) : one.numberTold(what);
        }

        /** The conditions (bits) of a LAW that a TELLING breaks: 0, if it FITS. */
        int brokenBy(Telling one, Law rule) {
            return rule.brokenBy(one, heldNumber(one, SIZE), heldNumber(one, SECONDS));
        }

        int lawsFitted(Telling one) {
            int size = heldNumber(one, SIZE);
            int seconds = heldNumber(one, SECONDS);
            int bits = 0;
            for (int i = 0; i < LAWS; i++) {
                Law rule = lawAt(i);
                if (rule != null && rule.brokenBy(one, size, seconds) == 0) {
                    bits |= 1 << i;
                }
            }
            return bits;
        }

        int howManyFit(Law rule) {
            int many = 0;
            for (Telling one : tellings) {
                many += one != null && brokenBy(one, rule) == 0 ? 1 : 0;
            }
            return many;
        }

        int howManyAskedFit(Law rule) {
            int many = 0;
            for (Telling one : tellings) {
                many += one != null && one.asked && brokenBy(one, rule) == 0 ? 1 : 0;
            }
            return many;
        }

        int howManyAsked() {
            int many = 0;
            for (Telling one : tellings) {
                many += one != null && one.asked ? 1 : 0;
            }
            return many;
        }

        int howManyGaps() {
            int many = 0;
            for (Telling one : tellings) {
                many += one == null ? 0 : one.gaps();
            }
            return many;
        }

        int howManyMarks() {
            int many = 0;
            for (Telling one : tellings) {
                many += one == null ? 0 : Integer.bitCount(one.marks);
            }
            return many;
        }

        /** SHOULD of a LAW. */
        int shownTo(Law rule) {
            int all = 0;
            for (int i = 0; i < rule.ringsReached && i < ringPeople.length; i++) {
                all += ringPeople[i];
            }
            return strokeCount * all;
        }

        /** The first of the fullest rings below an end that are not chosen yet, or -1. */
        int fullestRing(int end, int chosen) {
            int best = -1;
            int most = -1;
            for (int i = 0; i < end && i < ringPeople.length; i++) {
                if (!hasBit(chosen, i) && ringPeople[i] > most) {
                    best = i;
                    most = ringPeople[i];
                }
            }
            return best;
        }
    }
}
