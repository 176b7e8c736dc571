/** Rooms to try calls in, each made anew and always the same. */
final class Rooms {
    private Rooms() {
    }

    static LightInRoom empty() {
        return new LightInRoom();
    }

    /** Three TELLINGS, something told of all else, a good TEXT on THE TAPE, an older IMAGE. */
    static LightInRoom some() {
        LightInRoom x = Texts.room("s40t5c3bn@3", "t20c1mop@9?");
        tellAll(x, 1);
        x.twice(0, 1);
        x.image();
        Texts.tell(x, "s80t7hp@30");
        tellAll(x, 2);
        x.twice(0, 2);
        Texts.feed(x, "s9c4w@7");
        return x;
    }

    /** 30 TELLINGS, 10 pairs, a text on THE TAPE, an IMAGE of 29 TELLINGS. */
    static LightInRoom full(String tape) {
        LightInRoom x = new LightInRoom();
        for (int i = 0; i < 30; i++) {
            if (i == 29) {
                tellAll(x, 3);
                x.image();
            }
            Texts.tell(x, "s" + i + "b@" + i);
        }
        for (int i = 1; i <= 10; i++) {
            x.twice(0, i);
        }
        Texts.feed(x, tape);
        return x;
    }

    /** Of all that can be told something that depends on a number. */
    private static void tellAll(LightInRoom x, int by) {
        x.right(by % 2 == 0);
        x.growth(0, by);
        x.growth(1, 2 * by);
        for (int law = 0; law < 6; law++) {
            x.law(law, law, by + law);
            x.reach(law, by + law);
        }
        x.law(5, 6, 4 * by);
        x.people(by, 10 * by);
        x.people(0, by);
        x.strokes(by);
        x.bench(20 * by, 5 * by, by, by);
    }
}
