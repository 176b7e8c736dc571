import java.util.function.IntUnaryOperator;

/**
 * All that can be seen of an object from outside but for its counts of REFUSALS, as one text.
 * Looking uses the object up: some things are seen only by what a call says that they were.
 */
final class Sight {
    private final LightInRoom x;
    private final StringBuilder seen = new StringBuilder();

    private Sight(LightInRoom x) {
        this.x = x;
    }

    static String of(LightInRoom x) {
        Sight sight = new Sight(x);
        sight.counts();
        sight.tellings();
        sight.laws();
        sight.settings();
        sight.image();
        sight.tape();
        return sight.seen.toString();
    }

    private void row(String name, int many, IntUnaryOperator call) {
        seen.append(name);
        for (int i = 0; i < many; i++) {
            seen.append(' ').append(call.applyAsInt(i));
        }
        seen.append('\n');
    }

    private void counts() {
        row("count", 6, x::count);
        row("grows", 4, i -> x.grows(i / 2, i % 2));
        row("sorts", 2, x::sorts);
        row("together", 8, i -> x.together(i, (i + 3) % 8));
        row("cover", 1, i -> x.cover());
        row("leads", 1, i -> x.leads());
    }

    /** The first three TELLINGS and the last one. */
    private void tellings() {
        int all = x.count(0);
        for (int i = 0; i < all; i++) {
            if (i < 3 || i == all - 1) {
                int telling = i;
                row("telling", 6, what -> x.tellingOf(telling, what));
                row("put", 2, what -> x.put(telling, what));
                row("fits", 6, law -> x.fits(telling, law));
                row("kind", 1, no -> x.kind(telling));
                row("weight", 1, no -> x.weight(telling));
                row("alike", 1, no -> x.alike(telling));
                row("lines", 1, no -> x.lines(telling));
                row("misses", 1, no -> x.misses(telling));
            }
        }
    }

    private void laws() {
        row("share", 12, i -> x.share(i / 2, i % 2));
        row("only", 6, x::only);
        row("half", 6, x::half);
        row("pictures", 6, x::pictures);
        row("should", 6, x::should);
        row("seen", 6, x::seen);
        row("glasses", 6, law -> x.glasses(law, 3));
        row("barred", 8, colour -> x.barred(1 << colour));
    }

    private void settings() {
        row("right", 1, i -> x.right(true));
        row("growth", 2, what -> x.growth(what, 0));
        row("law", 42, i -> x.law(i / 7, i % 7, 0));
        row("reach", 6, law -> x.reach(law, 0));
        row("people", 10, ring -> x.people(ring, 0));
        row("strokes", 1, i -> x.strokes(0));
    }

    private void image() {
        row("on", 1, i -> x.on());
        row("counts then", 5, x::count);
        row("grows then", 4, i -> x.grows(i / 2, i % 2));
        if (x.count(0) > 0) {
            row("the first one then", 6, what -> x.tellingOf(0, what));
            row("lines then", 1, x::lines);
            row("misses then", 1, x::misses);
        }
        settings();
    }

    /** What is on THE TAPE shows only in the TELLING that it becomes. */
    private void tape() {
        row("bytes", 1, i -> x.count(5));
        int telling = x.telling();
        seen.append("told ").append(telling).append('\n');
        if (telling >= 0) {
            row("it", 6, what -> x.tellingOf(telling, what));
        }
    }
}
