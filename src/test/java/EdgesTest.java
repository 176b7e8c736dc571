/**
 * Each sentence of the document that names an edge (the least, the greatest, empty, full, what is
 * so at first, what holds without any TELLING), in the document's order. REFUSALS are in
 * RefusalsTest, the bytes of a TEXT in TextTest.
 */
public final class EdgesTest {
    private static final Check CHECK = new Check();
    private static final int[] LAW_AT_FIRST = {0, 999, 0, 999, 255, 0, 0};

    private static void due(String sentence, long got, long want) {
        CHECK.due(sentence, got, want);
    }

    public static void main(String[] args) {
        calls();
        tellings();
        tape();
        gaps();
        kinds();
        weights();
        lawsAtFirst();
        lawsLeastAndGreatest();
        lawsFromAboveTo();
        fitsBothEnds();
        fitsNothingAndAll();
        growth();
        right();
        share();
        only();
        cover();
        half();
        halfOfMany();
        sorts();
        together();
        twice();
        grows();
        people();
        strokes();
        reach();
        should();
        beyond();
        leads();
        pictures();
        benchNumbers();
        benchMarks();
        benchAsTold();
        barred();
        glasses();
        image();
        imageIsApart();
        count();
        CHECK.end();
    }

    private static void calls() {
        LightInRoom x = new LightInRoom();
        for (int i = 1; i < 512; i++) {
            x.kind(0);
        }
        due("at most 512 calls: the last one", x.count(11), 511);
    }

    private static void tellings() {
        LightInRoom x = new LightInRoom();
        due("1 no TELLINGS", x.count(0), 0);
        for (int i = 0; i < 30; i++) {
            due("numbers from 0 on (30 at most)", Texts.tell(x, "s" + i + "@" + i), i);
        }
        due("the 30th is told", x.tellingOf(29, 0), 29);
        due("the first is still told", x.tellingOf(0, 0), 0);
        Texts.feed(x, "@5");
        due("-6 30", x.telling(), -6);
        due("-6 30, again", x.telling(), -6);
        due("the 30th stays", x.tellingOf(29, 4), 29);
        due("(Refused: THE TAPE stays.)", x.count(5), 2);
    }

    private static void tape() {
        LightInRoom x = new LightInRoom();
        for (int n = 1; n <= 6; n++) {
            due("n (1 .. 8) bytes come: how many THE TAPE has", x.feed(n, -1), n * (n + 1) / 2);
        }
        due("one byte", x.feed(1, -1), 22);
        due("24 bytes", x.feed(2, -1), 24);
        due("no byte more", x.feed(1, -1), -6);
        due("a byte of 255 can not stand", x.telling(), -20);
        due("it has none", x.count(5), 0);
        due("8 bytes", x.feed(8, 0), 8);
        due("16 bytes", x.feed(8, 0), 16);
        due("24 bytes at once", x.feed(8, 0), 24);
        x.telling();
        due("the lowest first, the eighth highest", x.feed(8, 0x39407574_31633573L), 8);
        due("s5c1tu@9: a t behind the colour can not stand", x.telling(), -24);
        due("the highest byte has the sign", x.feed(8, 0xbf394075_31633573L), 8);
        due("191 is not ?", x.telling(), -27);
        due("the highest byte of eight", x.feed(8, 0x3f394075_31633573L), 8);
        due("s5c1u@9?", x.telling(), 0);
        due("s5c1u@9? is ASKED", x.tellingOf(0, 5), 1);
        due("only n bytes", x.feed(2, 0x3f3f3f3f_3f3f3940L), 2);
        due("@9", x.telling(), 1);
        due("@9 is not ASKED", x.tellingOf(1, 5), 0);
    }

    private static void gaps() {
        LightInRoom x = Texts.room("@0", "s0t0c0@0");
        for (int what = 0; what < 3; what++) {
            due("what is not told is a GAP", x.tellingOf(0, what), -9);
            due("0 is no GAP", x.tellingOf(1, what), 0);
        }
        due("a MARK that is not told is not so", x.tellingOf(0, 3), 0);
        due("3 GAPS", x.count(3), 3);
    }

    private static void kinds() {
        String[] texts = {"m@20?", "mo@20?", "wn@0?", "@0?", "m@99", "wnm@0", "nm@0", "wnmo@20",
            "wn@20", "n@20", "nmo@0", "w@20", "mo@20", "@20", "@19", "o@19", "w@0", "mo@0",
            "bhuwop@19"};
        int[] kinds = {5, 5, 5, 5, 3, 3, 3, 2,
            2, 1, 1, 4, 4, 4, 0, 0, 0, 0, 0};
        LightInRoom x = Texts.room(texts);
        for (int i = 0; i < texts.length; i++) {
            due("KINDS, the first that fits: " + texts[i], x.kind(i), kinds[i]);
        }
    }

    private static void weights() {
        for (int years = 0; years <= 99; years++) {
            LightInRoom x = Texts.room("@" + years, "n@" + years, "m@" + years, "@" + years + "?");
            int want = years < 20 ? 8 : years < 40 ? 7 : years < 60 ? 6 : years < 80 ? 5 : 4;
            due("GROWN a WITHOUT's less YEARS by 20, cut: " + years, x.weight(0), want);
            due("GROWN from 20 YEARS on: " + years, x.kind(0), years < 20 ? 0 : 4);
            due("NEAR 15", x.weight(1), 15);
            due("EYE 5", x.weight(2), 5);
            due("CALLED 1", x.weight(3), 1);
        }
        LightInRoom x = Texts.room("wn@0", "t0wn@0", "t1wn@0", "t999wn@99");
        due("THROUGH: 0 a GAP", x.weight(0), 15);
        due("THROUGH: no SECONDS", x.weight(1), 15);
        due("THROUGH: a NEAR's and SECONDS", x.weight(2), 16);
        due("THROUGH: the most", x.weight(3), 1014);
        x.growth(1, 50);
        x.right(true);
        due("THROUGH: SECONDS as told", x.weight(3), 1014);
    }

    private static void lawsAtFirst() {
        LightInRoom x = Texts.room("s0t0c0@0", "s999t999c7bhuwnmop@99?", "@1");
        for (int law = 0; law < 6; law++) {
            for (int telling = 0; telling < 3; telling++) {
                due("At first each lets all", x.fits(telling, law), 1);
            }
            for (int what = 0; what < 7; what++) {
                due("what a LAW is at first", x.law(law, what, 7), LAW_AT_FIRST[what]);
            }
        }
    }

    private static void lawsLeastAndGreatest() {
        for (int law = 0; law < 6; law++) {
            LightInRoom x = new LightInRoom();
            for (int what = 0; what < 7; what++) {
                int most = what < 4 ? 999 : 255;
                x.law(law, what, 0);
                due("(0 .. " + most + ") the least", x.law(law, what, most), 0);
                due("(0 .. " + most + ") the greatest", x.law(law, what, most - 1), most);
                due("what it was", x.law(law, what, 1), most - 1);
            }
            for (int what = 0; what < 7; what++) {
                due("each is apart", x.law(law, what, 0), 1);
                due("each LAW is apart", x.law((law + 1) % 6, what, 0), LAW_AT_FIRST[what]);
            }
        }
    }

    private static void lawsFromAboveTo() {
        LightInRoom x = Texts.room("s500t500@1", "@1");
        for (int from = 0; from <= 2; from += 2) {
            due("from may be above to", x.law(0, from + 1, 400), 999);
            due("from may be above to", x.law(0, from, 600), 0);
            due("nothing is within", x.fits(0, 0), 0);
            due("but GAPS fit", x.fits(1, 0), 1);
            due("to may be below from", x.law(0, from + 1, 0), 400);
            due("to may be below from", x.law(0, from + 1, 999), 0);
            due("what it was", x.law(0, from, 0), 600);
        }
        due("all is as at first", x.fits(0, 0), 1);
    }

    private static int fits(LightInRoom x, int what, int v) {
        int was = x.law(3, what, v);
        int answer = x.fits(0, 3);
        x.law(3, what, was);
        return answer;
    }

    private static void fitsBothEnds() {
        for (int number : new int[] {1, 20, 998}) {
            LightInRoom x = Texts.room("s" + number + "t" + number + "@1");
            for (int from = 0; from <= 2; from += 2) {
                due("within (both ends): below from", fits(x, from, number + 1), 0);
                due("within (both ends): at from", fits(x, from, number), 1);
                due("within (both ends): above from", fits(x, from, number - 1), 1);
                due("within (both ends): above to", fits(x, from + 1, number - 1), 0);
                due("within (both ends): at to", fits(x, from + 1, number), 1);
                due("within (both ends): below to", fits(x, from + 1, number + 1), 1);
                x.law(3, from, number);
                due("within (both ends): from is to", fits(x, from + 1, number), 1);
                x.law(3, from, 0);
            }
        }
        LightInRoom least = Texts.room("s0t0@1");
        LightInRoom most = Texts.room("s999t999@1");
        for (int from = 0; from <= 2; from += 2) {
            due("0 from 0", fits(least, from, 0), 1);
            due("0 from 1", fits(least, from, 1), 0);
            due("0 to 0", fits(least, from + 1, 0), 1);
            due("999 to 999", fits(most, from + 1, 999), 1);
            due("999 to 998", fits(most, from + 1, 998), 0);
            due("999 from 999", fits(most, from, 999), 1);
        }
    }

    private static void fitsNothingAndAll() {
        for (int i = 0; i < 8; i++) {
            LightInRoom x = Texts.room("c" + i + "bhuwnmop".charAt(i) + "@1");
            due("its COLOUR one of them: alone", fits(x, 4, 1 << i), 1);
            due("its COLOUR one of them: all but it", fits(x, 4, 255 - (1 << i)), 0);
            due("its COLOUR one of them: none", fits(x, 4, 0), 0);
            due("all MARKS it NEEDS: it", fits(x, 5, 1 << i), 1);
            due("all MARKS it NEEDS: the next", fits(x, 5, 1 << (i + 1) % 8), 0);
            due("all MARKS it NEEDS: one of two", fits(x, 5, 1 << i | 1 << (i + 1) % 8), 0);
            due("none that it BARS: it", fits(x, 6, 1 << i), 0);
            due("none that it BARS: all but it", fits(x, 6, 255 - (1 << i)), 1);
            due("none that it BARS: all", fits(x, 6, 255), 0);
        }
        LightInRoom gaps = Texts.room("@1");
        int[] hardest = {999, 0, 999, 0, 0};
        for (int what = 0; what < 5; what++) {
            gaps.law(0, what, hardest[what]);
            due("GAPS fit", gaps.fits(0, 0), 1);
        }
        gaps.law(0, 6, 255);
        due("no MARK is told, none is barred", gaps.fits(0, 0), 1);
        due("NEEDS all, none is told", fits(gaps, 5, 255), 0);
        due("NEEDS none", fits(gaps, 5, 0), 1);
        LightInRoom all = Texts.room("bhuwnmop@1");
        due("NEEDS all, all are told", fits(all, 5, 255), 1);
        all.law(3, 5, 16);
        due("NEEDS and BARS the same", fits(all, 6, 16), 0);
    }

    private static void growth() {
        LightInRoom x = Texts.room("s999t999@99", "s0t0@99", "s999t999@0", "s101t101@1", "s1t1@1");
        for (int what = 0; what < 2; what++) {
            due("0 at first", x.growth(what, 0), 0);
            due("G 0: as it is", x.put(0, what), 999);
            due("(0 .. 50)", x.growth(what, 50), 0);
            due("(0 .. 50)", x.growth(what, 50), 50);
            due("99900 by 5050, cut", x.put(0, what), 19);
            due("0 put RIGHT", x.put(1, what), 0);
            due("no YEARS", x.put(2, what), 999);
            due("10100 by 150, cut", x.put(3, what), 67);
            due("100 by 150, cut", x.put(4, what), 0);
            due("(0 .. 50)", x.growth(what, 1), 50);
            due("10100 by 101", x.put(3, what), 100);
            due("100 by 101, cut", x.put(4, what), 0);
            due("the other is apart", x.put(0, 1 - what), what == 0 ? 999 : 502);
        }
    }

    private static void right() {
        LightInRoom x = Texts.room("s60t60@10", "@10");
        x.growth(0, 50);
        x.growth(1, 50);
        for (int from = 0; from <= 2; from += 2) {
            x.law(0, from, 11);
            due("off at first: 60 from 11", x.fits(0, 0), 1);
            due("on", x.right(true), 1);
            due("put RIGHT 10 is not from 11", x.fits(0, 0), 0);
            x.law(0, from, 10);
            due("put RIGHT 10 from 10", x.fits(0, 0), 1);
            x.law(0, from + 1, 10);
            due("put RIGHT 10 to 10", x.fits(0, 0), 1);
            x.law(0, from + 1, 9);
            due("put RIGHT 10 is not to 9", x.fits(0, 0), 0);
            due("a GAP stays one", x.fits(1, 0), 1);
            due("off", x.right(false), 1);
            x.law(0, from, 0);
            x.law(0, from + 1, 999);
        }
        due("0 it was so", x.right(false), 0);
        due("on", x.right(true), 1);
        due("0 it was so", x.right(true), 0);
    }

    private static void share() {
        LightInRoom x = new LightInRoom();
        due("-3 there is no WEIGHT at all", x.share(0, 0), 1000000003);
        Texts.tell(x, "b@1?");
        due("the least WEIGHT: 1 of 1", x.share(0, 0) * 10 + x.share(0, 1), 11);
        x.law(0, 5, 2);
        due("none: 0 of 1", x.share(0, 0) * 10 + x.share(0, 1), 1);
        for (int i = 0; i < 29; i++) {
            Texts.tell(x, "t999wn@99");
        }
        x.law(1, 5, 1);
        due("1 of 29 times 1014 and 1", x.share(1, 0), 1);
        due("1 of 29 times 1014 and 1", x.share(1, 1), 29407);
        x.law(1, 5, 8);
        due("29406 of 29407 has no lesser terms", x.share(1, 0), 29406);
        due("30 TELLINGS, all", x.share(2, 1), 1);
        LightInRoom least = Texts.room("h@20", "h@20", "@1?", "b@1?", "m@0");
        least.law(5, 5, 2);
        due("14 of 21 in least terms", least.share(5, 0), 2);
        due("14 of 21 in least terms", least.share(5, 1), 3);
        LightInRoom gone = Texts.room();
        gone.image();
        Texts.tell(gone, "@1");
        gone.on();
        due("-3 none is there any more", gone.share(0, 1), 1000000003);
    }

    private static void only() {
        LightInRoom x = new LightInRoom();
        due("ONLY without any", x.only(0), 0);
        Texts.tell(x, "@1");
        due("ONLY: all LAWS let all", x.only(0), 0);
        for (int law = 0; law < 6; law++) {
            for (int other = 0; other < 6; other++) {
                x.law(other, 5, other == law ? 0 : 1);
            }
            for (int other = 0; other < 6; other++) {
                due("FIT it and no other one (of LAWS 0 .. 5)", x.only(other), other == law ? 1 : 0);
            }
        }
        for (int law = 0; law < 6; law++) {
            x.law(law, 5, 1);
        }
        due("ONLY: it FITS none", x.only(0), 0);
    }

    private static void cover() {
        LightInRoom x = new LightInRoom();
        due("COVER without any", x.cover(), 0);
        Texts.tell(x, "@1");
        for (int law = 0; law < 6; law++) {
            due("of several the least as bits", x.cover(), 1 << law);
            x.law(law, 5, 1);
        }
        due("a TELLING that FITS none needs none", x.cover(), 0);
        Texts.tell(x, "b@1");
        due("one of two FITS any", x.cover(), 1);
        LightInRoom six = Texts.room("b@1", "h@1", "u@1", "w@1", "n@1", "m@1");
        for (int law = 0; law < 6; law++) {
            six.law(law, 5, 1 << law);
        }
        due("all six", six.cover(), 63);
        six.law(5, 5, 0);
        due("the fewest: the last one alone", six.cover(), 32);
        LightInRoom two = Texts.room("bu@1", "hu@1", "bw@1", "hw@1");
        for (int law = 0; law < 4; law++) {
            two.law(law, 5, 1 << law);
        }
        two.law(4, 5, 255);
        two.law(5, 5, 255);
        due("two ways of two: the least as bits", two.cover(), 1 + 2);
        two.law(0, 5, 255);
        due("the other way", two.cover(), 4 + 8);
    }

    private static void half() {
        for (int what = 0; what < 7; what++) {
            int[] hard = {500, 100, 500, 100, 1, 1, 2};
            String bad = "s300t300c2h@1";
            LightInRoom x = Texts.room(what == 1 || what == 3 ? "s50t50b@1" : "s900t900c0b@1");
            x.law(4, what, hard[what]);
            due("one of one FITS", x.half(4), 0);
            Texts.tell(x, bad);
            due("one of two is a half", x.half(4), 0);
            Texts.tell(x, bad);
            due("one of three is less than a half", x.half(4), 1 << what);
            Texts.tell(x, what == 5 ? "b@1" : "@1");
            due("two of four are a half", x.half(4), 0);
        }
        LightInRoom none = new LightInRoom();
        due("HALF without any: nothing", none.half(5), 0);
        none.law(5, 0, 999);
        none.law(5, 1, 0);
        due("HALF without any: nothing, though none could", none.half(5), 0);
    }

    private static void halfOfMany() {
        LightInRoom x = Texts.room("s500t500c1h@1");
        int[] hard = {999, 0, 999, 0, 0, 1, 2};
        int want = 0;
        for (int what = 0; what < 7; what++) {
            x.law(0, what, hard[what]);
            want += 1 << what;
            due("all that keep it out must go", x.half(0), want);
        }
        LightInRoom tie = Texts.room("s500h@1", "t500h@1", "c1h@1");
        tie.law(0, 1, 0);
        tie.law(0, 3, 0);
        tie.law(0, 4, 0);
        due("one of three is let in by one; two want two: the least as bits", tie.half(0), 2 + 8);
        Texts.tell(tie, "u@1");
        due("one of four FITS, any one more is a half: the least", tie.half(0), 2);
        tie.law(0, 6, 2);
        due("BARS alone lets none in: two, the least as bits", tie.half(0), 2 + 64);
    }

    private static void sorts() {
        LightInRoom x = new LightInRoom();
        due("how many: none", x.sorts(0), 0);
        due("the greatest (0 without any)", x.sorts(1), 0);
        Texts.tell(x, "@1");
        due("one", x.sorts(0), 1);
        due("the greatest has one", x.sorts(1), 1);
        due("ALIKE to itself", x.alike(0), 0);
        for (int law = 0; law < 6; law++) {
            x.law(law, 5, 1 << law);
        }
        Texts.tell(x, "p@1");
        due("ALIKE, if they FIT none", x.alike(1), 0);
        due("one sort that FITS none", x.sorts(0), 1);
        for (int i = 2; i < 30; i++) {
            Texts.tell(x, i % 2 == 0 ? "b@1" : "h@1");
        }
        due("30 TELLINGS in three SORTS", x.sorts(0), 3);
        due("the greatest has 14", x.sorts(1), 14);
        due("the last of 30", x.alike(29), 3);
        due("the last but one", x.alike(28), 2);
        LightInRoom each = new LightInRoom();
        for (int law = 0; law < 6; law++) {
            each.law(law, 0, law + 1);
        }
        for (int i = 0; i < 7; i++) {
            Texts.tell(each, "s" + i + "@1");
            due("each is its own first", each.alike(i), i);
            due("as many SORTS as TELLINGS", each.sorts(0), i + 1);
        }
    }

    private static void together() {
        LightInRoom x = Texts.room("bp@1");
        due("-3, none have not", x.together(0, 7), 1000000003);
        due("-3, none have not, with itself", x.together(0, 0), 1000000003);
        due("-3, none have", x.together(1, 7), 1000000003);
        Texts.tell(x, "@1");
        due("the most", x.together(0, 7), 100);
        due("the most, with itself", x.together(0, 0), 100);
        LightInRoom apart = Texts.room("b@1", "p@1");
        due("the least", apart.together(0, 7), -100);
        LightInRoom cut = Texts.room("b@1", "b@1", "bp@1", "p@1", "@1", "@1", "@1", "@1", "p@1");
        due("33 less 33: each is cut", cut.together(0, 7), 0);
        Texts.tell(cut, "@1");
        due("33 less 28", cut.together(0, 7), 5);
        due("33 less 28 the other way", cut.together(7, 0), 5);
        Texts.tell(cut, "bp@1");
        Texts.tell(cut, "bp@1");
        Texts.tell(cut, "b@1");
        due("50 less 28", cut.together(0, 7), 22);
        LightInRoom below = Texts.room("b@1", "b@1", "bp@1", "p@1", "p@1", "@1");
        due("33 less 66 is below 0, each cut for itself", below.together(0, 7), -33);
    }

    private static void twice() {
        LightInRoom x = Texts.room("@0", "@1", "@98", "@99");
        due("one YEAR more", x.twice(0, 1), 1);
        due("one YEAR more", x.twice(2, 3), 2);
        due("the most YEARS", x.twice(0, 3), 3);
        due("the second told first", Texts.tell(x, "@50"), 4);
        due("a greater number may be the first", x.twice(4, 3), 4);
        for (int i = 5; i <= 10; i++) {
            due("(10 at most)", x.twice(0, 3), i);
        }
        due("-6 10", x.twice(0, 3), -6);
        due("10 stay", x.count(2), 10);
    }

    private static void grows() {
        LightInRoom x = Texts.room("s0t999@1", "s999t0@2", "s1@3", "t7@4", "s0@5");
        due("no pairs", x.grows(0, 0), 1000000003);
        x.twice(0, 1);
        due("those of the first are 0 together", x.grows(0, 0), 1000000003);
        due("those of the second may be 0", x.grows(1, 0), 0);
        due("0 in least terms", x.grows(1, 1), 1);
        x.twice(2, 3);
        due("the second is a GAP", x.grows(0, 1), 1000000003);
        due("the first is a GAP", x.grows(1, 1), 1);
        x.twice(2, 4);
        due("999 and 0 by 0 and 1", x.grows(0, 0), 999);
        due("999 and 0 by 0 and 1", x.grows(0, 1), 1);
        LightInRoom most = Texts.room("s999t998@1", "s998t999@2");
        for (int i = 0; i < 10; i++) {
            most.twice(0, 1);
        }
        due("9980 by 9990 in least terms", most.grows(0, 0), 998);
        due("9980 by 9990 in least terms", most.grows(0, 1), 999);
        due("9990 by 9980 in least terms", most.grows(1, 0), 999);
        most.growth(0, 50);
        most.right(true);
        due("as told", most.grows(0, 0), 998);
    }

    private static void people() {
        LightInRoom x = new LightInRoom();
        for (int ring = 0; ring < 10; ring++) {
            due("0 at first", x.people(ring, 0), 0);
            due("(0 .. 999)", x.people(ring, 999), 0);
            due("(0 .. 999)", x.people(ring, ring), 999);
        }
        for (int ring = 0; ring < 10; ring++) {
            due("each ring is apart", x.people(ring, 0), ring);
        }
    }

    private static void strokes() {
        LightInRoom x = new LightInRoom();
        due("0 at first", x.strokes(0), 0);
        due("(0 .. 99)", x.strokes(99), 0);
        due("(0 .. 99)", x.strokes(1), 99);
        due("what they were", x.strokes(1), 1);
    }

    private static void reach() {
        LightInRoom x = new LightInRoom();
        for (int law = 0; law < 6; law++) {
            due("10 at first", x.reach(law, 10), 10);
            due("(0 .. 10)", x.reach(law, 0), 10);
            due("(0 .. 10)", x.reach(law, law), 0);
        }
        for (int law = 0; law < 6; law++) {
            due("each LAW is apart", x.reach(law, 0), law);
        }
    }

    private static void should() {
        LightInRoom x = new LightInRoom();
        due("SHOULD of a new object", x.should(0), 0);
        for (int ring = 0; ring < 10; ring++) {
            x.people(ring, 1 << Math.min(ring, 9));
        }
        due("no STROKES", x.should(0), 0);
        x.strokes(1);
        for (int reach = 0; reach <= 10; reach++) {
            x.reach(0, reach);
            due("all in rings below its REACH", x.should(0), (1 << reach) - 1);
        }
        for (int ring = 0; ring < 10; ring++) {
            x.people(ring, 999);
        }
        x.strokes(99);
        due("the most", x.should(0), 989010);
        due("SEEN is none", x.seen(0), 0);
        due("less than nothing, the least", x.beyond(0, 999), -989010);
        due("SHOULD is no TELLING's", x.beyond(0, 1), -989010);
    }

    private static void beyond() {
        LightInRoom x = new LightInRoom();
        due("nothing", x.beyond(0, 1), 0);
        for (int i = 1; i <= 30; i++) {
            Texts.tell(x, "@1");
            due("SEEN", x.seen(5), i);
            due("told many, the least", x.beyond(5, 1), i);
            due("told many, the greatest", x.beyond(5, 999), 999 * i);
        }
        x.strokes(1);
        x.people(0, 31);
        due("-1 is an answer here", x.beyond(5, 1), -1);
        due("no refusal", x.count(11), 0);
        x.people(0, 30);
        due("just as many", x.beyond(5, 1), 0);
        x.reach(5, 0);
        due("it shows to none", x.beyond(5, 1), 30);
    }

    private static void leads() {
        LightInRoom x = new LightInRoom();
        due("-9 without any", x.leads(), -9);
        Texts.tell(x, "b@1");
        due("-9 none is ASKED", x.leads(), -9);
        Texts.tell(x, "b@1?");
        due("all the same: the least", x.leads(), 0);
        for (int law = 0; law < 5; law++) {
            x.law(law, 5, 2);
            x.law(law, 6, 1);
            due("0 and 0 is as much as 100 less 100", x.leads(), 0);
        }
        Texts.tell(x, "h@1?");
        for (int law = 0; law < 5; law++) {
            x.law(law, 5, 0);
            x.law(law, 6, 2);
        }
        due("0 .. 4 are 50 less 100, the last 0", x.leads(), 5);
        x.law(5, 6, 2);
        due("all below 0, the same: the least", x.leads(), 0);
        for (int law = 0; law < 6; law++) {
            x.law(law, 6, 0);
        }
        x.law(5, 5, 2);
        due("the last one is 50 less 0", x.leads(), 5);
        x.law(2, 5, 2);
        due("of several the least", x.leads(), 2);
        leadsAreCut();
        LightInRoom asked = Texts.room("@1?", "@2?");
        due("-9 none is not ASKED", asked.leads(), -9);
    }

    /** A third less a sixth is as much as two thirds less a half, but not if each is cut. */
    private static void leadsAreCut() {
        LightInRoom x = Texts.room("bh@1?", "h@1?", "@1?", "bh@1", "h@1", "h@1", "@1", "@1", "@1");
        for (int law = 0; law < 6; law++) {
            x.law(law, 5, 128);
        }
        x.law(0, 5, 2);
        due("66 less 50 is more than 0", x.leads(), 0);
        x.law(1, 5, 1);
        due("the hundredths (cut): 33 less 16 is more than 66 less 50", x.leads(), 1);
    }

    private static void pictures() {
        LightInRoom x = Texts.room("@1", "p@1");
        due("all LAWS let all", x.pictures(0), 0);
        for (int law = 1; law < 6; law++) {
            x.law(law, 6, 128);
        }
        due("FIT a LAW and no other one", x.pictures(0), 1);
        due("without a PICTURE it does not count", x.only(0), 1);
        for (int law = 1; law < 6; law++) {
            due("none", x.pictures(law), 0);
        }
        x.law(0, 6, 128);
        due("it FITS none", x.pictures(0), 0);
        due("without any", Rooms.empty().pictures(0), 0);
    }

    private static void benchNumbers() {
        LightInRoom x = Texts.room("s0t0c0@1", "s1@1", "t1@1", "c1@1", "s999t999c7@1", "@1");
        int[] misses = {-9, 0, 1, 2, 0, -9};
        int[] lines = {11, 10, 10, 10, 8, 11};
        for (int i = 0; i < misses.length; i++) {
            due("all 0 at first: MISSES of " + i, x.misses(i), misses[i]);
            due("all 0 at first: LINES of " + i, x.lines(i), lines[i]);
        }
        due("the greatest", x.bench(999, 999, 7, 255), 1);
        due("as great, as long, alike", x.misses(4), -9);
        due("greater, longer, COLOUR is not alike", x.misses(0), 2);
        x.bench(998, 999, 7, 255);
        due("not as great", x.misses(4), 0);
        x.bench(999, 998, 7, 255);
        due("not as long", x.misses(4), 1);
        x.bench(999, 999, 6, 255);
        due("the COLOUR below", x.misses(4), 2);
        due("a GAP it has", x.misses(5), -9);
        x.bench(0, 0, 0, 0);
        due("the least", x.misses(0), -9);
        due("the first that it has not", x.misses(4), 0);
        due("told anew", x.lines(4), 8);
    }

    private static void benchMarks() {
        for (int i = 0; i < 8; i++) {
            LightInRoom x = Texts.room("bhuwnmop".charAt(i) + "@1", "@1", "bhuwnmop@1");
            due("3 .. 10 each MARK, not the BENCH's", x.misses(0), 3 + i);
            due("one LINE lacks", x.lines(0), 10);
            x.bench(0, 0, 0, 1 << i);
            due("the BENCH's has it", x.misses(0), -9);
            due("all LINES", x.lines(0), 11);
            due("a MARK that is not told it has", x.misses(1), -9);
            due("all but one of eight lack", x.lines(2), 4);
            x.bench(0, 0, 0, 255 - (1 << i));
            due("the others do not help", x.misses(0), 3 + i);
            due("the first that it has not", x.misses(2), 3 + i);
        }
    }

    private static void benchAsTold() {
        LightInRoom x = Texts.room("s999t999@99", "s1t1@99", "s999t999@99?");
        x.growth(0, 50);
        x.growth(1, 50);
        x.right(true);
        for (int telling = 0; telling <= 2; telling += 2) {
            x.bench(998, 999, 0, 0);
            due("SIZE is not put RIGHT for a BENCH", x.misses(telling), 0);
            due("SIZE is not put RIGHT for a BENCH", x.lines(telling), 10);
            x.bench(999, 998, 0, 0);
            due("SECONDS are not put RIGHT for a BENCH", x.misses(telling), 1);
            due("SECONDS are not put RIGHT for a BENCH", x.lines(telling), 10);
        }
        x.bench(0, 0, 0, 0);
        due("1 put RIGHT would be 0", x.lines(1), 9);
    }

    private static void barred() {
        LightInRoom x = new LightInRoom();
        due("a new object bars none", x.barred(255), 0);
        for (int law = 0; law < 6; law++) {
            x.law(law, 4, 0);
            due("an empty row bars none", x.barred(0), 0);
            for (int colour = 0; colour < 8; colour++) {
                due("a LAW without colours", x.barred(1 << colour), (2 << law) - 1);
            }
        }
        for (int law = 0; law < 6; law++) {
            x.law(law, 4, 255 - (1 << law + 2));
        }
        due("lack one of them", x.barred(255), 63);
        due("none lacks 0 and 1", x.barred(3), 0);
        due("the last lacks 7", x.barred(128), 32);
        due("the first lacks 2", x.barred(4 + 1), 1);
    }

    private static void glasses() {
        LightInRoom x = new LightInRoom();
        for (int n = 1; n <= 5; n++) {
            due("no PEOPLE: the least as bits", x.glasses(0, n), (1 << n) - 1);
            for (int reach = 0; reach <= 10; reach++) {
                x.reach(0, reach);
                due("all, if there are fewer", x.glasses(0, n), (1 << Math.min(n, reach)) - 1);
            }
        }
        for (int ring = 0; ring < 10; ring++) {
            x.people(ring, ring + 990);
        }
        for (int n = 1; n <= 5; n++) {
            due("most PEOPLE together: the last", x.glasses(0, n), 1024 - (1 << 10 - n));
        }
        x.reach(0, 9);
        due("not the ring at its REACH", x.glasses(0, 1), 256);
        x.people(3, 998);
        due("of several the least as bits", x.glasses(0, 1), 8);
        due("both of them", x.glasses(0, 2), 8 + 256);
        due("REACHES are apart", x.glasses(1, 1), 512);
    }

    private static void image() {
        LightInRoom x = new LightInRoom();
        due("-3 there is none", x.on(), -3);
        due("of nothing", x.image(), 0);
        due("ON from nothing", x.on(), 0);
        for (int i = 0; i < 30; i++) {
            Texts.tell(x, "s" + i + "@" + i);
        }
        due("ON: all are gone", x.on(), 0);
        due("none is there", x.count(0), 0);
        due("the first is nobody", x.kind(0), -1);
        for (int i = 0; i < 30; i++) {
            due("numbers from 0 on again", Texts.tell(x, "t" + i + "@" + i), i);
        }
        for (int i = 0; i < 10; i++) {
            x.twice(i, i + 1);
        }
        due("of 30", x.image(), 30);
        due("ON at once", x.on(), 30);
        due("still full", x.telling(), -6);
        due("still ten pairs", x.twice(0, 1), -6);
        due("the last one", x.tellingOf(29, 1), 29);
        due("ON as often as one likes", x.on(), 30);
    }

    private static void imageIsApart() {
        LightInRoom x = Texts.room("s1@1", "s3@3");
        x.twice(0, 1);
        x.image();
        for (int turn = 0; turn < 3; turn++) {
            due("a TELLING behind it", Texts.tell(x, "s9@" + (5 + turn)), 2);
            due("a pair behind it", x.twice(0, 2), 2);
            due("12 by 2", x.grows(0, 0), 6);
            x.law(5, 6, 255);
            x.people(9, 999);
            due("ON", x.on(), 2);
            due("3 by 1 as then", x.grows(0, 0), 3);
            due("LAWS as then", x.law(5, 6, 1), 0);
            due("PEOPLE as then", x.people(9, 1), 0);
        }
        Texts.feed(x, "s9@");
        x.image();
        x.feed(1, '7');
        x.on();
        due("THE TAPE is none of THE IMAGE", x.count(5), 4);
        due("it goes on", x.telling(), 2);
        due("REFUSALS are none of THE IMAGE", x.strokes(100), -6);
        x.on();
        due("how many there were", x.count(16), 1);
    }

    private static void count() {
        LightInRoom x = new LightInRoom();
        for (int what = -1; what <= 17; what++) {
            boolean known = what >= 0 && what <= 5 || what >= 11 && what <= 16;
            due("count of a new object: " + what, x.count(what), known ? 0 : -9);
        }
        for (int i = 0; i < 30; i++) {
            Texts.tell(x, "bhuwnmop@1?");
        }
        due("0 TELLINGS", x.count(0), 30);
        due("1 ASKED ones", x.count(1), 30);
        due("3 GAPS", x.count(3), 90);
        due("4 MARKS told", x.count(4), 240);
        for (int i = 1; i <= 20; i++) {
            x.kind(-1);
            x.sorts(-1);
            x.on();
            x.strokes(-1);
            x.strokes(100);
            due("11 REFUSALS -1", x.count(11), i);
            due("12 REFUSALS -2", x.count(12), i);
            due("13 REFUSALS -3", x.count(13), i);
            due("14 REFUSALS -4", x.count(14), i);
            due("15 REFUSALS -5", x.count(15), 0);
            due("16 REFUSALS -6", x.count(16), i);
        }
        due("1 ASKED of one and one other", askedOfTwo(), 1);
    }

    private static int askedOfTwo() {
        return Texts.room("@1?", "@1").count(1);
    }
}
