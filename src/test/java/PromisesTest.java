/** Each promise of the document by its number: ordinary inputs, its edges, wrong inputs. */
public final class PromisesTest {
    private static final int LEAST = Integer.MIN_VALUE;
    private static final int GREATEST = Integer.MAX_VALUE;
    private static final Check CHECK = new Check();

    private static void due(String call, long got, long want) {
        CHECK.due(call, got, want);
    }

    public static void main(String[] args) {
        promise1New();
        promise2Feed();
        promise3Telling();
        promise3Faults();
        promise4TellingOf();
        promises5And6KindAndWeight();
        promise7Law();
        promises8To10Right();
        promise11Fits();
        promise12Share();
        promise13Only();
        promise14Cover();
        promise15Half();
        promises16And17Sorts();
        promise18Together();
        promise19Twice();
        promise20Grows();
        promises21To24Near();
        promises25And26Seen();
        promise27Leads();
        promise28Pictures();
        promises29To31Bench();
        promise32Barred();
        promise33Glasses();
        promises34And35Image();
        promise36Count();
        CHECK.end();
    }

    private static void promise1New() {
        LightInRoom x = new LightInRoom();
        for (int what = 0; what <= 5; what++) {
            due("1 new: count(" + what + ")", x.count(what), 0);
        }
        for (int what = 11; what <= 16; what++) {
            due("1 new: count(" + what + ")", x.count(what), 0);
        }
        int[] atFirst = {0, 999, 0, 999, 255, 0, 0};
        for (int law = 0; law < 6; law++) {
            for (int what = 0; what < 7; what++) {
                due("1 new: a law at first", x.law(law, what, atFirst[what]), atFirst[what]);
            }
            due("1 new: reach at first", x.reach(law, 10), 10);
        }
        for (int ring = 0; ring < 10; ring++) {
            due("1 new: people at first", x.people(ring, 0), 0);
        }
        due("1 new: strokes at first", x.strokes(0), 0);
        due("1 new: growth at first", x.growth(0, 0), 0);
        due("1 new: growth at first", x.growth(1, 0), 0);
        due("1 new: right is off", x.right(false), 0);
    }

    private static void promise2Feed() {
        LightInRoom x = new LightInRoom();
        due("2 the lowest byte first", x.feed(2, 0x3140L), 2);
        due("2 so the text is @1", x.telling(), 0);
        due("2 what lies above n is left", x.feed(1, 0x7777777777777740L), 1);
        due("2 it goes on", x.feed(1, '7'), 2);
        due("2 @7", x.telling(), 1);
        due("2 @7 has years", x.tellingOf(1, 4), 7);
        due("2 n 0", x.feed(0, 0), -4);
        due("2 n below 0", x.feed(-1, 0), -4);
        due("2 n far below", x.feed(LEAST, 0), -4);
        due("2 n 9", x.feed(9, 0), -6);
        due("2 n far above", x.feed(GREATEST, 0), -6);
        due("2 8", x.feed(8, 0), 8);
        due("2 16", x.feed(8, 0), 16);
        due("2 23", x.feed(7, 0), 23);
        due("2 above 24", x.feed(2, 0), -6);
        due("2 nothing changes", x.count(5), 23);
        due("2 24", x.feed(1, 0), 24);
        due("2 full", x.feed(1, 0), -6);
        due("2 full, n 0", x.feed(0, 0), -4);
        due("2 -4 counted", x.count(14), 4);
        due("2 -6 counted", x.count(16), 4);
    }

    private static void promise3Telling() {
        LightInRoom x = new LightInRoom();
        due("3 an empty tape lacks all", x.telling(), -20);
        due("3 a fault is not counted", x.count(11) + x.count(14) + x.count(16), 0);
        Texts.feed(x, "s1x");
        due("3 a fault", x.telling(), -22);
        due("3 behind a fault the tape has none", x.count(5), 0);
        for (int i = 0; i < 30; i++) {
            due("3 the numbers", Texts.tell(x, "@1"), i);
            due("3 the tape has none", x.count(5), 0);
        }
        Texts.feed(x, "@1");
        due("3 30 are there", x.telling(), -6);
        due("3 refused: the tape stays", x.count(5), 2);
        due("3 refused: counted", x.count(16), 1);
        due("3 refused: none comes", x.count(0), 30);
        Texts.feed(x, "x");
        due("3 no room goes before a fault", x.telling(), -6);
        due("3 and the tape stays", x.count(5), 3);
    }

    private static void promise3Faults() {
        String[] texts = {"s", "sx@1", "s1234@1", "s12", "s1s1@1", "t", "t@1", "t1234@1", "t1s1@1",
            "c", "c8@1", "c9@1", "c12@1", "c1t1@1", "bb@1", "hb@1", "pb@1", "bhuwnmop", "bhuwnmops@1",
            "bs1@1", "x@1", "S1@1", "@", "@x", "@123", "@1??", "@1?1", "@1x", "@1b", "?", "@?", "1@1",
            "@1@1", "s1 @1", "bhuwnmopb@1", "\0@1", "\u00e2@1", "s1t2c3b@45?6", "s-1@1", "cb@1", "c@1"};
        int[] places = {1, 1, 4, 3, 2, 1, 1, 4, 2,
            1, 1, 1, 2, 2, 1, 1, 1, 8, 8,
            1, 0, 0, 1, 1, 3, 3, 3, 2, 2, 0, 1, 0,
            2, 2, 8, 0, 0, 11, 1, 1, 1};
        LightInRoom x = new LightInRoom();
        for (int i = 0; i < texts.length; i++) {
            due("3 the fault of " + texts[i], Texts.tell(x, texts[i]), -20 - places[i]);
        }
        due("3 none of them came", x.count(0), 0);
        String[] good = {"@0", "@00", "@99?", "s0@1", "s999t999c7bhuwnmop@99?", "s007@1", "t5@1",
            "c0@1", "p@1", "b@1", "hp@1", "s1c1@1", "t1c1@1", "s1b@1"};
        for (int i = 0; i < good.length; i++) {
            due("3 good: " + good[i], Texts.tell(x, good[i]), i);
        }
    }

    private static void promise4TellingOf() {
        LightInRoom x = Texts.room("s120t45c6bn@07?", "@0", "s0t0c0p@99");
        int[][] want = {{120, 45, 6, 17, 7, 1}, {-9, -9, -9, 0, 0, 0}, {0, 0, 0, 128, 99, 0}};
        for (int telling = 0; telling < 3; telling++) {
            for (int what = 0; what < 6; what++) {
                due("4 tellingOf(" + telling + ", " + what + ")", x.tellingOf(telling, what),
                        want[telling][what]);
            }
        }
        String marks = "bhuwnmop";
        for (int i = 0; i < 8; i++) {
            int telling = Texts.tell(x, marks.charAt(i) + "@1");
            due("4 the bit of " + marks.charAt(i), x.tellingOf(telling, 3), 1 << i);
        }
        due("4 no such telling", x.tellingOf(11, 0), -1);
        due("4 below", x.tellingOf(-1, 0), -1);
        due("4 -1 goes before -2", x.tellingOf(LEAST, 6), -1);
        due("4 other", x.tellingOf(0, 6), -2);
        due("4 other below", x.tellingOf(0, -1), -2);
        due("4 counted", x.count(11), 3);
        due("4 counted", x.count(12), 2);
    }

    private static void promises5And6KindAndWeight() {
        String[] texts = {"@19", "@20", "@39", "@40", "@99", "n@19", "n@50", "wn@1", "t7wn@60",
            "w@1", "w@30", "m@1", "mo@1", "mo@20", "wnm@1", "wnmo@1", "nm@1", "nmo@30", "m@1?",
            "t9wn@30?", "@30?", "t0wn@1", "s9t999wn@1", "o@1", "bhup@0"};
        int[] kinds = {0, 4, 4, 4, 4, 1, 1, 2, 2,
            0, 4, 3, 0, 4, 3, 2, 3, 1, 5,
            5, 5, 2, 2, 0, 0};
        int[] weights = {8, 7, 7, 6, 4, 15, 15, 15, 22,
            8, 7, 5, 8, 7, 5, 15, 5, 15, 1,
            1, 1, 15, 1014, 8, 8};
        LightInRoom x = Texts.room(texts);
        x.right(true);
        x.growth(1, 50);
        for (int i = 0; i < texts.length; i++) {
            due("5 kind of " + texts[i], x.kind(i), kinds[i]);
            due("6 weight of " + texts[i] + ", as told", x.weight(i), weights[i]);
        }
        due("5 nobody", x.kind(texts.length), -1);
        due("5 nobody", x.kind(-1), -1);
        due("6 nobody", x.weight(texts.length), -1);
        due("6 nobody", x.weight(GREATEST), -1);
        due("5, 6 counted", x.count(11), 4);
    }

    private static void promise7Law() {
        LightInRoom x = new LightInRoom();
        for (int what = 0; what < 7; what++) {
            int most = what < 4 ? 999 : 255;
            int first = new int[] {0, 999, 0, 999, 255, 0, 0}[what];
            due("7 what it was at first", x.law(5, what, 3), first);
            due("7 above", x.law(5, what, most + 1), -6);
            due("7 below", x.law(5, what, -1), -4);
            due("7 the greatest; refused ones changed nothing", x.law(5, what, most), 3);
            due("7 the least", x.law(5, what, 0), most);
            due("7 it was the least", x.law(5, what, 1), 0);
            due("7 each law has its own", x.law(4, what, first), first);
        }
        due("7 no such law", x.law(6, 7, -1), -1);
        due("7 no such law", x.law(-1, 0, 0), -1);
        due("7 other", x.law(0, 7, -1), -2);
        due("7 other", x.law(0, -1, 1000), -2);
        due("7 counts", x.count(11) + 10 * x.count(12), 22);
    }

    private static void promises8To10Right() {
        LightInRoom x = Texts.room("s100t50@10", "@10", "s999@99", "s100@0", "t0@5");
        due("8 off at first", x.right(false), 0);
        due("8 on", x.right(true), 1);
        due("8 on already", x.right(true), 0);
        due("8 off", x.right(false), 1);
        due("10 without growth", x.put(0, 0), 100);
        due("9 growth was", x.growth(0, 7), 0);
        due("9 growth was", x.growth(0, 50), 7);
        due("9 above", x.growth(0, 51), -6);
        due("9 below", x.growth(0, -1), -4);
        due("9 other goes first", x.growth(2, -1), -2);
        due("9 other", x.growth(-1, 51), -2);
        due("9 each its own", x.growth(1, 3), 0);
        due("10 100 by 600 of 100", x.put(0, 0), 16);
        due("10 50 by 130 of 100", x.put(0, 1), 38);
        due("10 a gap", x.put(1, 0), -9);
        due("10 a gap", x.put(1, 1), -9);
        due("10 999 by 5050 of 100", x.put(2, 0), 19);
        due("10 no years", x.put(3, 0), 100);
        due("10 nothing stays nothing", x.put(4, 1), 0);
        due("10 nobody goes first", x.put(5, 2), -1);
        due("10 other", x.put(0, 2), -2);
        due("10 other", x.put(0, -1), -2);
        x.law(0, 0, 17);
        due("8 off: as told", x.fits(0, 0), 1);
        x.right(true);
        due("8 on: 16 is below 17", x.fits(0, 0), 0);
        x.law(0, 0, 16);
        due("8 on: 16 is within", x.fits(0, 0), 1);
        x.law(0, 3, 37);
        due("8 on: 38 seconds are above 37", x.fits(0, 0), 0);
        due("8 on: a gap fits", x.fits(1, 0), 1);
        due("8 what is told stays", x.tellingOf(0, 0), 100);
    }

    private static void promise11Fits() {
        LightInRoom x = Texts.room("s20t5c3bh@1", "@1", "s20@1", "t5@1", "c3@1", "b@1");
        due("11 each law lets all", x.fits(0, 5), 1);
        int[][] rows = {{0, 20, 1}, {0, 21, 0}, {0, 0, 1}, {1, 20, 1}, {1, 19, 0}, {1, 999, 1},
            {2, 5, 1}, {2, 6, 0}, {2, 0, 1}, {3, 5, 1}, {3, 4, 0}, {3, 999, 1}, {4, 8, 1},
            {4, 247, 0}, {4, 255, 1}, {5, 3, 1}, {5, 4, 0}, {5, 7, 0}, {5, 0, 1}, {6, 252, 1},
            {6, 2, 0}, {6, 255, 0}, {6, 0, 1}};
        for (int[] row : rows) {
            x.law(2, row[0], row[1]);
            due("11 law's " + row[0] + " at " + row[1], x.fits(0, 2), row[2]);
            due("11 another law is not moved", x.fits(0, 1), 1);
        }
        int[] hardest = {999, 0, 999, 0, 0};
        for (int what = 0; what < 5; what++) {
            x.law(3, what, hardest[what]);
        }
        due("11 gaps fit", x.fits(1, 3), 1);
        due("11 a size that is told does not", x.fits(2, 3), 0);
        due("11 seconds that are told do not", x.fits(3, 3), 0);
        due("11 a colour that is told does not", x.fits(4, 3), 0);
        x.law(3, 5, 1);
        due("11 a mark that is not told is not so", x.fits(1, 3), 0);
        due("11 it is told", x.fits(5, 3), 1);
        x.law(3, 6, 1);
        due("11 needed and barred", x.fits(5, 3), 0);
        due("11 nobody", x.fits(6, 0), -1);
        due("11 nobody", x.fits(0, 6), -1);
        due("11 nobody", x.fits(-1, -1), -1);
        due("11 counted once each", x.count(11), 3);
    }

    private static void promise12Share() {
        LightInRoom x = new LightInRoom();
        due("12 no weight", x.share(0, 0), 1000000003);
        due("12 -1 first", x.share(6, 2), 1000000001);
        due("12 -1", x.share(-1, 0), 1000000001);
        due("12 -2 before -3", x.share(0, 2), 1000000002);
        due("12 -2", x.share(0, -1), 1000000002);
        due("12 counted", x.count(11) + 10 * x.count(12) + 100 * x.count(13), 122);
        Texts.tell(x, "b@1");
        Texts.tell(x, "hn@1");
        Texts.tell(x, "um@1");
        Texts.tell(x, "b@40?");
        x.law(0, 5, 2);
        due("12 15 of 29", x.share(0, 0), 15);
        due("12 15 of 29", x.share(0, 1), 29);
        Texts.tell(x, "@60?");
        due("12 15 of 30 is 1 of 2", x.share(0, 0), 1);
        due("12 15 of 30 is 1 of 2", x.share(0, 1), 2);
        due("12 all", x.share(1, 0), 1);
        due("12 all", x.share(1, 1), 1);
        x.law(0, 6, 2);
        due("12 none: 0", x.share(0, 0), 0);
        due("12 none: by 1", x.share(0, 1), 1);
    }

    /** Laws that each need one mark, the law's own number; the last bars them all. */
    private static void lawsByMarks(LightInRoom x) {
        for (int law = 0; law < 5; law++) {
            x.law(law, 5, 1 << law);
        }
        x.law(5, 6, 255);
    }

    private static void promise13Only() {
        LightInRoom x = Texts.room("b@1", "b@1", "bh@1", "@1", "h@1", "p@1");
        due("13 all laws let all", x.only(0), 0);
        lawsByMarks(x);
        due("13 law 0", x.only(0), 2);
        due("13 law 1", x.only(1), 1);
        due("13 law 2", x.only(2), 0);
        due("13 law 5", x.only(5), 1);
        due("13 nobody", x.only(6), -1);
        due("13 nobody", x.only(-1), -1);
        due("13 counted", x.count(11), 2);
    }

    private static void promise14Cover() {
        LightInRoom x = new LightInRoom();
        due("14 nothing to cover", x.cover(), 0);
        Texts.tell(x, "bh@1");
        due("14 the least of several", x.cover(), 1);
        lawsByMarks(x);
        Texts.tell(x, "hu@1");
        due("14 one for both", x.cover(), 2);
        Texts.tell(x, "p@1");
        due("14 one that fits none asks nothing", x.cover(), 2);
        Texts.tell(x, "bn@1");
        due("14 two: 0 and 1 before 1 and 4", x.cover(), 3);
        Texts.tell(x, "@1");
        Texts.tell(x, "w@1");
        Texts.tell(x, "n@1");
        due("14 more", x.cover(), 2 + 8 + 16 + 32);
        x.law(3, 5, 0);
        x.law(3, 6, 2);
        due("14 fewer beat lower ones", x.cover(), 2 + 8);
        LightInRoom all = Texts.room("b@1", "h@1", "u@1", "w@1", "n@1", "@1");
        lawsByMarks(all);
        due("14 all are wanted", all.cover(), 63);
    }

    private static void promise15Half() {
        LightInRoom x = new LightInRoom();
        due("15 without any", x.half(0), 0);
        Texts.tell(x, "s10t10c1b@1");
        Texts.tell(x, "s20t20c2h@1");
        Texts.tell(x, "s30t30c3u@1");
        int[][] rows = {{0, 25, 1}, {1, 15, 2}, {2, 25, 4}, {3, 15, 8}, {4, 2, 16}, {5, 1, 32},
            {6, 3, 64}};
        int[] first = {0, 999, 0, 999, 255, 0, 0};
        for (int[] row : rows) {
            x.law(1, row[0], row[1]);
            due("15 one of three fits; given up " + row[0], x.half(1), row[2]);
            x.law(1, row[0], first[row[0]]);
        }
        due("15 all fit", x.half(1), 0);
        x.law(1, 0, 15);
        due("15 two of three", x.half(1), 0);
        x.law(1, 0, 25);
        Texts.tell(x, "@1");
        due("15 two of four are a half", x.half(1), 0);
        x.law(1, 5, 128);
        due("15 needs", x.half(1), 32);
        x.law(1, 0, 999);
        x.law(1, 1, 0);
        due("15 sizes hinder three of four", x.half(1), 1 + 2 + 32);
        x.law(1, 5, 0);
        due("15 the first of two ways", x.half(1), 3);
        x.law(2, 0, 25);
        x.law(2, 4, 254 - 8);
        x.law(2, 3, 15);
        due("15 size alone lets one more in", x.half(2), 1);
        x.law(2, 6, 1);
        due("15 0 and 3, 0 and 6, 3 and 4 would do: the least", x.half(2), 1 + 8);
        int[] hardest = {999, 0, 999, 0, 0, 128, 7};
        for (int what = 0; what < 7; what++) {
            x.law(3, what, hardest[what]);
        }
        Texts.tell(x, "s40t40c4b@1");
        due("15 all must go", x.half(3), 127);
        due("15 nobody", x.half(6), -1);
        due("15 nobody", x.half(-1), -1);
        due("15 counted", x.count(11), 2);
    }

    private static void promises16And17Sorts() {
        LightInRoom x = new LightInRoom();
        due("16 none", x.sorts(0), 0);
        due("16 none", x.sorts(1), 0);
        for (String text : new String[] {"b@1", "h@1", "b@2", "bh@1", "h@3", "b@4", "p@1"}) {
            Texts.tell(x, text);
        }
        due("16 all alike", x.sorts(0), 1);
        due("16 all alike", x.sorts(1), 7);
        due("17 all alike", x.alike(6), 0);
        lawsByMarks(x);
        due("16 sorts", x.sorts(0), 4);
        due("16 the greatest", x.sorts(1), 3);
        int[] first = {0, 1, 0, 3, 1, 0, 6};
        for (int i = 0; i < first.length; i++) {
            due("17 alike to " + i, x.alike(i), first[i]);
        }
        due("16 other", x.sorts(2), -2);
        due("16 other", x.sorts(-1), -2);
        due("17 nobody", x.alike(7), -1);
        due("17 nobody", x.alike(-1), -1);
        due("16, 17 counted", x.count(11) + 10 * x.count(12), 22);
    }

    private static void promise18Together() {
        LightInRoom x = Texts.room("bh@1", "bh@1", "b@1", "h@1", "@1", "@1");
        due("18 66 less 33", x.together(0, 1), 33);
        due("18 66 less 33", x.together(1, 0), 33);
        due("18 with itself", x.together(0, 0), 100);
        due("18 with none", x.together(0, 7), 0);
        due("18 none has the first", x.together(7, 0), 1000000003);
        Texts.tell(x, "hp@1");
        Texts.tell(x, "hp@1");
        due("18 each is cut: 66 less 60", x.together(0, 1), 6);
        due("18 below 0", x.together(7, 0), -50);
        LightInRoom all = Texts.room("b@1", "b@2");
        due("18 none lacks the first", all.together(0, 1), 1000000003);
        due("18 nobody", all.together(8, 0), 1000000001);
        due("18 nobody", all.together(0, 8), 1000000001);
        due("18 nobody", all.together(-1, 0), 1000000001);
        due("18 nobody", all.together(0, LEAST), 1000000001);
        due("18 counted", all.count(11) + 10 * all.count(13), 14);
    }

    private static void promise19Twice() {
        LightInRoom x = Texts.room("@5", "@6", "@5");
        due("19 nobody", x.twice(3, 0), -1);
        due("19 nobody", x.twice(0, 3), -1);
        due("19 nobody", x.twice(-1, -1), -1);
        due("19 as many years", x.twice(0, 2), -3);
        due("19 fewer years", x.twice(1, 0), -3);
        for (int i = 1; i <= 10; i++) {
            due("19 pairs", x.twice(i % 2 == 0 ? 0 : 2, 1), i);
        }
        due("19 no room", x.twice(0, 1), -6);
        due("19 -3 before -6", x.twice(0, 0), -3);
        due("19 -1 before -6", x.twice(0, 3), -1);
        due("19 still ten", x.count(2), 10);
        due("19 counted", x.count(11) + 10 * x.count(13) + 100 * x.count(16), 134);
    }

    private static void promise20Grows() {
        LightInRoom x = Texts.room("s10t0@1", "s25t6@9", "s20@2", "t3@30", "s5t4@40", "s0t8@50");
        due("20 no pairs", x.grows(0, 0), 1000000003);
        x.twice(0, 1);
        due("20 25 by 10", x.grows(0, 0), 5);
        due("20 25 by 10", x.grows(0, 1), 2);
        due("20 seconds of the first are 0", x.grows(1, 0), 1000000003);
        x.twice(2, 3);
        due("20 a gap in the second", x.grows(0, 1), 2);
        x.twice(2, 4);
        due("20 30 by 30", x.grows(0, 0), 1);
        due("20 30 by 30", x.grows(0, 1), 1);
        due("20 a gap in the first", x.grows(1, 1), 1000000003);
        x.twice(3, 5);
        due("20 14 by 3", x.grows(1, 0), 14);
        due("20 14 by 3", x.grows(1, 1), 3);
        x.growth(0, 50);
        x.growth(1, 50);
        x.right(true);
        due("20 as told", x.grows(1, 0), 14);
        due("20 other", x.grows(2, 0), 1000000002);
        due("20 other", x.grows(-1, 0), 1000000002);
        due("20 other part", x.grows(0, 2), 1000000002);
        due("20 other part", x.grows(0, -1), 1000000002);
        due("20 counted", x.count(12) + 10 * x.count(13), 34);
        LightInRoom none = Texts.room("s7@1", "s0@2");
        none.twice(0, 1);
        due("20 0 by 7 is 0", none.grows(0, 0), 0);
        due("20 0 by 7 is by 1", none.grows(0, 1), 1);
    }

    private static void promises21To24Near() {
        LightInRoom x = new LightInRoom();
        for (int ring = 0; ring < 10; ring++) {
            due("21 people at first", x.people(ring, 999), 0);
            due("21 above", x.people(ring, 1000), -6);
            due("21 below", x.people(ring, -1), -4);
            due("21 were", x.people(ring, ring + 1), 999);
        }
        due("21 nobody goes first", x.people(10, -1), -1);
        due("21 nobody", x.people(-1, 1000), -1);
        due("24 no strokes", x.should(0), 0);
        due("22 strokes", x.strokes(99), 0);
        due("22 above", x.strokes(100), -6);
        due("22 below", x.strokes(-1), -4);
        due("22 were", x.strokes(2), 99);
        due("24 all rings", x.should(0), 110);
        due("23 reach", x.reach(0, 9), 10);
        due("23 above", x.reach(0, 11), -6);
        due("23 below", x.reach(0, -1), -4);
        due("23 nobody goes first", x.reach(6, 11), -1);
        due("23 nobody", x.reach(-1, -1), -1);
        due("24 rings below its reach", x.should(0), 90);
        due("24 another law's", x.should(1), 110);
        due("23 was", x.reach(0, 0), 9);
        due("24 none", x.should(0), 0);
        due("23 was", x.reach(0, 1), 0);
        due("24 the first", x.should(0), 2);
        due("24 nobody", x.should(6), -1);
        due("24 nobody", x.should(-1), -1);
        due("21 to 24 counted", x.count(11) + 100 * x.count(14) + 10000 * x.count(16), 121206);
        for (int ring = 0; ring < 10; ring++) {
            x.people(ring, 999);
        }
        x.strokes(99);
        due("24 the most", x.should(5), 989010);
        due("26 the least", x.beyond(5, 999), -989010);
    }

    private static void promises25And26Seen() {
        LightInRoom x = Texts.room("b@1", "b@2", "h@3");
        due("25 all", x.seen(0), 3);
        lawsByMarks(x);
        due("25 two", x.seen(0), 2);
        due("25 one", x.seen(1), 1);
        due("25 none", x.seen(4), 0);
        due("25 nobody", x.seen(6), -1);
        due("25 nobody", x.seen(-1), -1);
        x.people(3, 50);
        x.strokes(3);
        due("26 2 times 100 less 150", x.beyond(0, 100), 50);
        due("26 less than nothing", x.beyond(1, 149), -1);
        due("26 the greatest", x.beyond(0, 999), 1848);
        due("26 the least", x.beyond(0, 1), -148);
        x.reach(0, 3);
        due("26 out of reach", x.beyond(0, 1), 2);
        due("26 nobody goes first", x.beyond(6, 0), 1000000001);
        due("26 nobody", x.beyond(-1, 1000), 1000000001);
        due("26 below", x.beyond(0, 0), 1000000004);
        due("26 above", x.beyond(0, 1000), 1000000006);
        due("26 counted", x.count(11) + 10 * x.count(14) + 100 * x.count(16), 114);
    }

    private static void promise27Leads() {
        LightInRoom x = new LightInRoom();
        due("27 none", x.leads(), -9);
        Texts.tell(x, "b@1?");
        due("27 no others", x.leads(), -9);
        Texts.tell(x, "h@1");
        due("27 all equal: the least", x.leads(), 0);
        due("27 -9 is no refusal", x.count(13) + x.count(11), 0);
        x.law(0, 5, 2);
        due("27 law 0 is behind", x.leads(), 1);
        x.law(4, 5, 1);
        due("27 law 4 leads", x.leads(), 4);
        x.law(3, 6, 2);
        due("27 of several the least", x.leads(), 3);
        for (int law = 0; law < 6; law++) {
            x.law(law, 5, 0);
            x.law(law, 6, 1);
        }
        x.law(2, 6, 255);
        due("27 most may be below 0", x.leads(), 2);
        LightInRoom cut = Texts.room("b@1?", "b@1?", "@1?", "b@1", "b@1", "b@1", "@1", "@1");
        cut.law(0, 5, 1);
        due("27 66 less 60 is more than 0", cut.leads(), 0);
        LightInRoom others = Texts.room("@1", "@2");
        due("27 none asked", others.leads(), -9);
    }

    private static void promise28Pictures() {
        LightInRoom x = Texts.room("bp@1", "b@1", "bhp@1", "p@1", "bp@2", "hp@1");
        due("28 all fit all", x.pictures(0), 0);
        lawsByMarks(x);
        x.law(5, 6, 127);
        due("28 law 0", x.pictures(0), 2);
        due("28 law 1", x.pictures(1), 1);
        due("28 law 5", x.pictures(5), 1);
        due("28 law 2", x.pictures(2), 0);
        due("28 nobody", x.pictures(6), -1);
        due("28 nobody", x.pictures(-1), -1);
        due("28 counted", x.count(11), 2);
    }

    private static void promises29To31Bench() {
        LightInRoom x = Texts.room("s10t20c3bp@1", "@1", "s0t0c0@1", "bhuwnmop@1");
        due("30 at first", x.lines(0), 6);
        due("31 at first", x.misses(0), 0);
        due("30 gaps it has", x.lines(1), 11);
        due("31 none", x.misses(1), -9);
        due("30 all 0 at first", x.lines(2), 11);
        due("30 no marks", x.lines(3), 3);
        due("31 the first mark", x.misses(3), 3);
        due("29 told", x.bench(10, 19, 3, 129), 1);
        due("30 seconds lack", x.lines(0), 10);
        due("31 seconds", x.misses(0), 1);
        due("29 told", x.bench(9, 20, 3, 129), 1);
        due("31 size", x.misses(0), 0);
        due("29 told", x.bench(10, 20, 2, 129), 1);
        due("31 colour", x.misses(0), 2);
        due("30 colour", x.lines(2), 10);
        due("29 told", x.bench(10, 20, 3, 1), 1);
        due("31 the picture", x.misses(0), 10);
        due("29 told", x.bench(11, 21, 3, 129), 1);
        due("30 greater and longer", x.lines(0), 11);
        due("31 none", x.misses(0), -9);
        for (int mark = 0; mark < 8; mark++) {
            x.bench(0, 0, 0, 255 - (1 << mark));
            due("31 each mark", x.misses(3), 3 + mark);
            due("30 each mark", x.lines(3), 10);
        }
        x.bench(10, 20, 3, 129);
        x.growth(0, 50);
        x.growth(1, 50);
        x.right(true);
        due("30 as told", x.lines(0), 11);
        x.bench(9, 20, 3, 129);
        due("31 as told", x.misses(0), 0);
        due("29 edges", x.bench(999, 999, 7, 255), 1);
        due("29 edges", x.bench(0, 0, 0, 0), 1);
        x.bench(10, 20, 3, 129);
        int[][] bad = {{-1, 1000, 8, 0, -1}, {0, 0, -1, 0, -1}, {0, 0, 0, 256, -1}, {0, 0, 0, -1, -1},
            {1000, -1, 0, 0, -4}, {-1, 1000, 0, 0, -4}, {1000, 0, 0, 0, -6}, {0, 1000, 0, 0, -6},
            {LEAST, GREATEST, 0, 0, -4}};
        for (int[] row : bad) {
            due("29 refused", x.bench(row[0], row[1], row[2], row[3]), row[4]);
        }
        due("29 refused: it stays", x.lines(0), 11);
        due("30 nobody", x.lines(4), -1);
        due("30 nobody", x.lines(-1), -1);
        due("31 nobody", x.misses(4), -1);
        due("31 nobody", x.misses(-1), -1);
        due("29 to 31 counted", x.count(11) + 100 * x.count(14) + 10000 * x.count(16), 20308);
    }

    private static void promise32Barred() {
        LightInRoom x = new LightInRoom();
        due("32 none", x.barred(255), 0);
        x.law(0, 4, 254);
        x.law(3, 4, 0);
        x.law(5, 4, 1);
        due("32 no colours", x.barred(0), 0);
        due("32 colour 0", x.barred(1), 1 + 8);
        due("32 colour 1", x.barred(2), 8 + 32);
        due("32 both", x.barred(3), 1 + 8 + 32);
        due("32 all", x.barred(255), 1 + 8 + 32);
        due("32 above", x.barred(256), -1);
        due("32 below", x.barred(-1), -1);
        due("32 far", x.barred(GREATEST), -1);
        due("32 counted", x.count(11), 3);
    }

    private static void promise33Glasses() {
        LightInRoom x = new LightInRoom();
        due("33 all equal: the least", x.glasses(0, 3), 7);
        int[] people = {1, 7, 3, 7, 0, 7, 3, 9, 9, 2};
        for (int ring = 0; ring < 10; ring++) {
            x.people(ring, people[ring]);
        }
        due("33 one", x.glasses(0, 1), 128);
        due("33 two", x.glasses(0, 2), 128 + 256);
        due("33 three", x.glasses(0, 3), 2 + 128 + 256);
        due("33 four", x.glasses(0, 4), 2 + 8 + 128 + 256);
        due("33 five", x.glasses(0, 5), 2 + 8 + 32 + 128 + 256);
        x.reach(0, 7);
        due("33 below its reach", x.glasses(0, 4), 2 + 4 + 8 + 32);
        due("33 another law", x.glasses(1, 1), 128);
        x.reach(0, 2);
        due("33 fewer: all", x.glasses(0, 3), 3);
        due("33 one of two", x.glasses(0, 1), 2);
        x.reach(0, 0);
        due("33 none", x.glasses(0, 5), 0);
        due("33 nobody goes first", x.glasses(6, 0), -1);
        due("33 nobody", x.glasses(-1, 6), -1);
        due("33 below", x.glasses(0, 0), -4);
        due("33 above", x.glasses(0, 6), -6);
        due("33 counted", x.count(11) + 10 * x.count(14) + 100 * x.count(16), 112);
    }

    private static void promises34And35Image() {
        LightInRoom x = Texts.room("s10t10c1bp@1", "s30t20c2@9");
        due("35 there is none", x.on(), -3);
        due("35 counted", x.count(13), 1);
        x.law(0, 0, 5);
        x.law(5, 6, 4);
        x.growth(0, 3);
        x.growth(1, 4);
        x.right(true);
        x.twice(0, 1);
        x.people(9, 8);
        x.strokes(7);
        x.reach(2, 4);
        x.bench(9, 9, 1, 129);
        Texts.feed(x, "@4");
        due("34 taken", x.image(), 2);
        x.telling();
        x.twice(1, 0);
        x.twice(0, 2);
        Texts.feed(x, "s77");
        x.law(0, 0, 6);
        x.law(5, 6, 0);
        x.growth(0, 0);
        x.growth(1, 0);
        x.right(false);
        x.people(9, 0);
        x.strokes(0);
        x.reach(2, 0);
        x.bench(0, 0, 0, 0);
        due("35 on", x.on(), 2);
        due("35 tellings", x.count(0), 2);
        due("35 a later one is gone", x.kind(2), -1);
        due("35 pairs", x.count(2), 1);
        due("35 grows", x.grows(0, 0), 3);
        due("35 the tape stays", x.count(5), 3);
        due("35 refusals stay", x.count(13), 2);
        due("35 law", x.law(0, 0, 6), 5);
        due("35 law", x.law(5, 6, 0), 4);
        due("35 growth", x.growth(0, 0), 3);
        due("35 growth", x.growth(1, 0), 4);
        due("35 right", x.right(true), 0);
        due("35 people", x.people(9, 0), 8);
        due("35 strokes", x.strokes(0), 7);
        due("35 reach", x.reach(2, 0), 4);
        due("35 bench", x.misses(0), 0);
        due("35 bench", x.lines(0), 9);
        due("35 on once more", x.on(), 2);
        due("35 what came behind on left the image alone", x.law(0, 0, 5), 5);
        due("35 so for reach", x.reach(2, 4), 4);
        x.telling();
        Texts.tell(x, "@1");
        due("34 a newer image", x.image(), 3);
        Texts.tell(x, "@1");
        due("35 on from the newer", x.on(), 3);
        LightInRoom empty = new LightInRoom();
        due("34 of nothing", empty.image(), 0);
        Texts.tell(empty, "@1");
        due("35 back to nothing", empty.on(), 0);
        due("35 none is there", empty.sorts(1), 0);
        due("35 none weighs", empty.share(0, 0), 1000000003);
        due("35 numbers begin anew", Texts.tell(empty, "@1"), 0);
    }

    private static void promise36Count() {
        LightInRoom x = Texts.room("s1t2c3bhuwnmop@1?", "@1?", "s1@2", "t1@3", "c1m@4");
        due("36 tellings", x.count(0), 5);
        due("36 asked", x.count(1), 2);
        x.twice(0, 2);
        due("36 pairs", x.count(2), 1);
        due("36 gaps", x.count(3), 9);
        due("36 marks", x.count(4), 9);
        x.feed(5, 0);
        due("36 bytes", x.count(5), 5);
        x.kind(9);
        x.sorts(9);
        x.on();
        x.strokes(-1);
        x.strokes(100);
        for (int what = 11; what <= 16; what++) {
            due("36 refusals", x.count(what), what == 15 ? 0 : 1);
        }
        for (int what : new int[] {-1, 6, 7, 8, 9, 10, 17, 18, LEAST, GREATEST}) {
            due("36 another what", x.count(what), -9);
        }
        due("36 that is no refusal", x.count(12), 1);
    }
}
