/** Terms 1 of the document: each sentence that names a boundary, by a test of its own. */
public final class Terms1EdgeTest extends Edges {
    public static void main(String[] args) {
        thingsAndStrength();
        housesAndWhatTheyHave();
        noses();
        keenJustEnough();
        eachBitOfWhich();
        fire();
        noMoreThanItHas();
        minutesOfAPot();
        tastesOfAPot();
        theTapeAtItsEnd();
        linesOneOrMore();
        aLineWithAFirstE();
        joins();
        whatAnOMayBe();
        names();
        sixAreOpen();
        intsThatWrap();
        byZero();
        oneAndZero();
        whichLineCounts();
        theFault();
        growthIsHeld();
        withoutAText();
        aMinute();
        far();
        whatAMixIs();
        end("Terms 1");
    }

    // ---- what there is

    private static void thingsAndStrength() {
        sentence("Terms 1", "THINGS 0 .. 7 (leek, bone, barley ..), each of STRENGTH (0 .. 9) in TASTES 0 .. 4 (0 at first).");
        SoupCourt x = new SoupCourt();
        for (int i = 0; i < 40; i++) {
            due("STRENGTH at first", x.of(i / 5 * 10 + i % 5, 0), 0);
        }
        for (int i = 0; i < 40; i++) {
            x.mend(i / 5 * 10 + i % 5, 0, 7 * i % 10);
        }
        for (int i = 0; i < 40; i++) {
            due("each STRENGTH by itself", x.of(i / 5 * 10 + i % 5, 0), 7 * i % 10);
        }
        edges("THING", 0, 7, (c, v) -> c.mend(10 * v + 2, 0, 1));
        edges("TASTE", 0, 4, (c, v) -> c.mend(30 + v, 0, 1));
        edgesOfAll("STRENGTH", 0, 9, (c, v) -> c.mend(74, 0, v));
    }

    private static void housesAndWhatTheyHave() {
        sentence("Terms 1", "HOUSES 0 .. 5, as they come: how much it HAS of each THING (0 .. 9; 0 at first).");
        SoupCourt x = new SoupCourt();
        for (int house = 0; house < 6; house++) {
            due("a HOUSE that has not come", x.of(10 * house, 1), BAD);
            due("a HOUSE comes", x.house(), house);
            for (int thing = 0; thing < 8; thing++) {
                due("HAS at first", x.of(10 * house + thing, 1), 0);
            }
        }
        due("a 7th HOUSE", x.house(), FULL);
        due("it has not come", x.of(60, 1), BAD);
        edges(State.AT_ITS_ENDS, "HOUSE", 0, 5, (c, v) -> c.mend(10 * v + 3, 1, 4));
        refused(State.MIDST, "the HOUSE that comes next", BAD, c -> c.mend(30, 1, 4));
        edges("THING of a HOUSE", 0, 7, (c, v) -> c.mend(20 + v, 1, 1));
        edgesOfAll("HAS", 0, 9, (c, v) -> c.mend(27, 1, v));
    }

    private static void noses() {
        sentence("Terms 1", "NOSES 0 .. 7, as they come: KEEN (1 .. 50:");
        SoupCourt x = new SoupCourt();
        for (int nose = 0; nose < 8; nose++) {
            due("a NOSE that has not come", x.of(nose, 2), BAD);
            due("a NOSE comes", x.nose(nose == 0 ? 50 : nose), nose);
            due("its KEEN", x.of(nose, 2), nose == 0 ? 50 : nose);
        }
        due("a 9th NOSE", x.nose(5), FULL);
        due("it has not come", x.of(8, 2), BAD);
        edges(State.AT_ITS_ENDS, "NOSE", 0, 7, (c, v) -> c.mend(v, 2, 7));
        farOff("NOSE", (c, v) -> c.mend(v, 2, 7));
        edgesOfAll("KEEN that a NOSE comes with", 1, 50, SoupCourt::nose);
        edgesOfAll("KEEN", 1, 50, (c, v) -> c.mend(1, 2, v));
    }

    private static void keenJustEnough() {
        // a NOSE comes with the KEEN that nose() tells, so that "5 at first" shows nowhere else
        sentence("Terms 1", "how far two soups must be apart in one TASTE for it to tell; 5 at first)");
        for (int keen : new int[] {1, 5, 50}) {
            for (int taste = 0; taste < 5; taste++) {
                SoupCourt x = new SoupCourt();
                x.nose(keen);
                for (int by = keen - 1; by <= keen; by++) {
                    int[] soup = {40, 40, 40, 40, 40};
                    bytes(x, 0, soup);
                    soup[taste] += by;
                    bytes(x, 1, soup);
                    due("KEEN " + keen + ", apart by " + by + " upward", x.apart(1, 0), by == keen ? 1 : 0);
                    due("KEEN " + keen + ", apart by " + by + " downward", x.apart(10, 0), by == keen ? 1 : 0);
                }
            }
        }
        SoupCourt x = new SoupCourt();
        x.nose(5);
        bytes(x, 0, 40, 40, 40, 40, 40);
        bytes(x, 1, 44, 36, 44, 36, 44);
        due("no one TASTE is KEEN apart, all together are", x.apart(1, 0), 0);
    }

    private static void eachBitOfWhich() {
        sentence("Terms 1", "WHICH TASTES (bits 0 .. 31; 31 at first).");
        edgesOfAll("WHICH", 0, 31, (c, v) -> c.mend(0, 3, v));
        SoupCourt x = new SoupCourt();
        x.nose(10);
        due("WHICH at first", x.of(0, 3), 31);
        x.row(0, 0, 5);
        for (int taste = 0; taste < 5; taste++) {
            int[] soup = new int[5];
            soup[taste] = 10;
            bytes(x, 1, soup);
            for (int which : new int[] {31, 0, 1 << taste, 31 - (1 << taste)}) {
                x.mend(0, 3, which);
                due("WHICH " + which + ", apart in " + taste, x.apart(1, 0), which >> taste & 1);
            }
        }
    }

    private static void fire() {
        sentence("Terms 1", "FIRE (0 .. 9; 5 at first).");
        SoupCourt x = withLaw("f");
        x.row(0, 0, 0);
        due("FIRE at first", x.of(0, 4), 5);
        due("a POT on it", x.taste(0, 1, 0), 5);
        edgesOfAll("FIRE", 0, 9, (c, v) -> c.mend(0, 4, v));
        for (int fire = 0; fire <= 9; fire += 9) {
            x.mend(0, 4, fire);
            due("a POT on FIRE " + fire, x.taste(0, 1, 0), fire);
        }
    }

    // ---- a POT

    private static void noMoreThanItHas() {
        sentence("Terms 1", "A POT: of a HOUSE, THINGS (how much of each, no more than it HAS)");
        for (int thing = 0; thing < 8; thing++) {
            SoupCourt x = new SoupCourt();
            x.house();
            int[] mix = new int[8];
            for (int i = 0; i < 8; i++) {
                x.mend(i, 1, 4);
                mix[i] = i == thing ? 5 : 4;
            }
            bytes(x, 0, mix);
            due("one more than it HAS of " + thing, x.pot(0, 0), STATE);
            due("nothing is gone", x.of(thing, 1), 4);
            due("no POT", x.potOf(6), STATE);
            x.put(0, thing, 4);
            due("all that it HAS", x.pot(0, 0), 32);
            due("all is gone", x.of(thing, 1), 0);
        }
    }

    private static void minutesOfAPot() {
        sentence("Terms 1", "MINUTES (0 .. 99; 0 at first)");
        SoupCourt x = withLaw("m=99?20;0");
        emptyPot(x);
        due("MINUTES at first", x.potOf(5), 0);
        for (int m = 1; m <= 99; m++) {
            due("MINUTES", x.minute(), m);
        }
        due("at 99", x.potOf(5), 99);
        due("no minute yet began at 99", x.potOf(0), 0);
        due("one more", x.minute(), 99);
        due("no more than 99", x.potOf(5), 99);
        due("this one began at 99", x.potOf(0), 20);
    }

    private static void emptyPot(SoupCourt x) {
        x.house();
        x.row(5, 0, 0);
        due("an empty POT", x.pot(5, 0), 0);
    }

    private static void tastesOfAPot() {
        sentence("Terms 1", "TASTES (0 .. 99; 0 at first).");
        SoupCourt x = withLaw("m<5?20;m=5?1;m=6?0-19;0-20");
        emptyPot(x);
        dues("TASTE at first", x, SoupCourt::potOf, 0, 0, 0, 0, 0, 0, 0);
        int[] tastes = {20, 40, 60, 80, 99, 99, 80, 60, 40, 20, 0, 0};
        for (int m = 0; m < tastes.length; m++) {
            x.minute();
            for (int taste = 0; taste < 5; taste++) {
                due("TASTE behind " + (m + 1), x.potOf(taste), tastes[m]);
            }
        }
    }

    private static void aMinute() {
        sentence("Terms 1", "A MINUTE: all five TASTES at once, as they stand when it begins; MINUTES one more (99 stays).");
        SoupCourt x = withLaw("t+i+m");
        emptyPot(x);
        for (int m = 0; m < 3; m++) {
            due("MINUTES one more", x.minute(), m + 1);
        }
        // i, then i more than twice that and 1, then i more than twice that and 2
        dues("each TASTE by what stood when the minute began", x, SoupCourt::potOf, 4, 11, 18, 25, 32, 3);
        for (int m = 3; m < 105; m++) {
            x.minute();
        }
        due("99 stays", x.potOf(5), 99);
        due("minutes led go on", x.led(2), 105);
    }

    private static void far() {
        sentence("Terms 1", "FAR are two soups: the sum of how far their TASTES are apart.");
        SoupCourt x = withLaw("0");
        x.row(0, 0, 0);
        bytes(x, 1, 99, 99, 99, 99, 99);
        due("as FAR as can be, from below", x.best(1, 1), 495);
        bytes(x, 1, 0, 0, 0, 0, 0);
        due("not FAR at all", x.best(1, 1), 0);
        x.house();
        lawOf(x, "20");
        due("as FAR as can be, from above", x.nearest(1, 10, -1), 495);
        lawOf(x, "10");
        bytes(x, 1, 7, 13, 10, 0, 99);
        due("below and above", x.nearest(1, 1, -1), 3 + 3 + 0 + 10 + 89);
    }

    private static void whatAMixIs() {
        sentence("Terms 1", "A MIX is a ROW of bytes on a SHELF: how much of THINGS 0 on (8 at most; it ends with what is below 0 or above 9; what lacks is 0).");
        int[][] rows = {
            {}, {0}, {9}, {1, 2}, {1, 1, 1, 1, 1, 1, 1}, {1, 1, 1, 1, 1, 1, 1, 1}, {1, 1, 1, 1, 1, 1, 1, 1, 9},
            {1, 1, 1, 1, 1, 1, 1, 1, -1}, {1, 1, 1, 1, 1, 1, 1, 10}, {1, 1, 1, 1, 1, 1, 1, -1},
            {-1, 3}, {10, 3}, {3, -1, 3}, {3, 10, 3}, {3, 127, 3}, {3, -128, 3}, {3, 0, 3}, {0, 9, 10},
        };
        int[] in = {0, 0, 9, 3, 7, 8, 8, 8, 7, 7, 0, 0, 3, 3, 3, 3, 6, 9};
        SoupCourt x = withLaw("w");
        for (int i = 0; i < rows.length; i++) {
            bytes(x, 0, rows[i]);
            due("a ROW of " + rows[i].length + ", number " + i, x.taste(0, 1, 4), in[i]);
        }
        lawOf(x, "w/4");
        bytes(x, 0, 9, 9, 9, 9, 9, 9, 9, 9, 9);
        due("9 of each of 8", x.taste(0, 1, 4), 18);
        x.row(0, 0, 60);
        due("60 bytes of 0", x.taste(0, 1, 4), 0);
        x.put(0, 7, 8);
        due("the 8th counts", x.taste(0, 1, 4), 2);
        x.put(0, 8, 8);
        due("the 9th doesn't", x.taste(0, 1, 4), 2);
        for (int sort = 1; sort < 5; sort++) {
            x.row(0, sort, 8);
            due("a ROW of sort " + sort, x.taste(0, 1, 4), OTHER_KIND);
        }
    }

    // ---- THE LAW's texts

    /** The text is one: by how much a TASTE of 20 grows by it in an empty POT's second minute. */
    private static void gives(String text, int by) {
        SoupCourt x = withLaw("m=0?20;" + text);
        x.row(0, 0, 0);
        due("by " + text, x.taste(0, 2, 0) - 20, by);
    }

    private static void faultAt(int place, String... texts) {
        for (String text : texts) {
            SoupCourt x = withLaw("7");
            x.row(0, 0, 0);
            due("the text " + text, lawOf(x, text), -100 - place);
            due("THE LAW behind " + text, x.taste(0, 1, 0), 7);
            due("THE TAPE behind " + text, x.count(2), 0);
        }
    }

    private static void theTapeAtItsEnd() {
        sentence("Terms 1", "THE LAW is a TEXT by THE TAPE (THE TAPE has at most 120 bytes)");
        SoupCourt x = new SoupCourt();
        x.row(0, 0, 0);
        String text = "70" + times(59, "-1");
        for (int i = 0; i < 120; i++) {
            due("byte " + i, x.feed(text.charAt(i)), i + 1);
        }
        due("the 121st", x.feed('9'), FULL);
        due("bytes", x.count(2), 120);
        due("a text of 120 bytes", x.law(), 1);
        due("all of it counts", x.taste(0, 1, 0), 11);
        due("room again", x.feed('9'), 1);
        refused(State.AT_ITS_ENDS, "a byte more", FULL, c -> c.feed('+'));
    }

    private static void linesOneOrMore() {
        sentence("Terms 1", "LINES, one or more, parted by ; .");
        gives("7", 7);
        SoupCourt x = withLaw(times(29, "0?1;") + "7");
        x.row(0, 0, 0);
        due("the last of 30 LINES", x.taste(0, 1, 0), 7);
        due("60 LINES", lawOf(x, "7" + times(59, ";9")), 1);
        due("the first of 60", x.taste(0, 1, 0), 7);
        due("59 LINES with a first E that is 0, as many as fit", lawOf(x, times(29, "0?1;") + "0?9"), 1);
        due("none counts", x.taste(0, 1, 0), 0);
        faultAt(0, "", ";", ";7");
        faultAt(2, "7;", "7;;", "7;;7");
        faultAt(120, times(60, "7;"));
    }

    private static void aLineWithAFirstE() {
        sentence("Terms 1", "LINE: E, or E ? E (what counts if the first is not 0).");
        gives("1?7;3", 7);
        gives("0?7;3", 3);
        gives("-1?7;3", 7);
        gives("9999?7;3", 7);
        gives("4096*4096*256?7;3", 3);
        gives("4096*4096*128?7;3", 7);
        gives("0?7", 0);
        faultAt(0, "?7");
        faultAt(2, "7?", "7?;3", "7??3");
        faultAt(3, "1?2?3", "1?2?", "0?2?3");
        faultAt(2, "(1?2)");
    }

    private static void joins() {
        sentence("Terms 1", "E = A { | A }. A = B { & B }. B = S, or S < S, S = S, S > S. S = P { + P, - P }. P = O { * O, / O, % O }.");
        String[] texts = {"3", "0|0", "0|0|3", "0|0|0", "3&2", "3&2&0", "3&2&1", "1<2", "2<2", "2=2", "1=2", "3>2", "2>2",
            "9-4-3", "1+2+3+4", "2*3*3", "19/4", "19%4", "40/5/4", "39%20%6", "2+3*4", "2*3+4", "9-2*3", "1+1<3", "1<1+1",
            "0&1|1", "1|1&0", "1<2&2<1", "2<1|1<2", "1=1+0", "2*3%4", "7/2*2"};
        int[] by = {3, 0, 1, 0, 1, 0, 1, 1, 0, 1, 0, 1, 0, 2, 10, 18, 4, 3, 2, 1, 14, 10, 3, 1, 1, 1, 1, 0, 1, 1, 2, 6};
        for (int i = 0; i < texts.length; i++) {
            gives(texts[i], by[i]);
        }
        for (String sign : "| & < = > * / %".split(" ")) {
            faultAt(0, sign + "7");
            faultAt(2, "7" + sign, "7" + sign + sign + "7", "7" + sign + "|7", "7" + sign + ")");
        }
        faultAt(0, "+7");
        faultAt(2, "7+", "7-", "7++7", "7-+7");
        for (String one : "< = >".split(" ")) {
            for (String other : "< = >".split(" ")) {
                faultAt(3, "1" + one + "2" + other + "3", "1" + one + "2" + other);
            }
        }
        gives("(1<2)<3", 1);
    }

    private static void whatAnOMayBe() {
        sentence("Terms 1", "O = a number (1 to 4 digits), a NAME, ! O, - O, ( E ). No blanks.");
        gives("9", 9);
        gives("09", 9);
        gives("0019", 19);
        gives("9999=9998+1", 1);
        gives("!0", 1);
        gives("!9", 0);
        gives("-9", -9);
        gives("(9)", 9);
        faultAt(4, "10000", "00001", "12345");
        faultAt(6, "1+99999");
        faultAt(1, "!", "-", "(", "()", "!)", "-;", "7s", "s7", "7(1)", "s!7");
        faultAt(2, "(7", "-(", "!-");
        faultAt(1, "7)", "s)", "7 ", "7\t", "7\n");
        faultAt(0, " 7", "\n7", "x", "S");
        faultAt(2, "7+ 7");
        for (int sign = 0; sign < 256; sign++) {
            boolean isO = "0123456789stmfiw".indexOf(sign) >= 0;
            boolean opens = "(!-".indexOf(sign) >= 0;
            boolean joins = "+-*/%<=>&|?;".indexOf(sign) >= 0;
            SoupCourt x = new SoupCourt();
            x.feed(sign);
            due("byte " + sign + " by itself", x.law(), isO ? 1 : opens ? -101 : -100);
            x.feed('w');
            x.feed(sign);
            due("byte " + sign + " behind a NAME", x.law(), joins ? -102 : -101);
            x.feed('7');
            x.feed(sign);
            due("byte " + sign + " behind a digit", x.law(), '0' <= sign && sign <= '9' ? 1 : joins ? -102 : -101);
        }
    }

    private static void names() {
        sentence("Terms 1", "NAMES: s the sum of how much of each THING is in, times its STRENGTH in that TASTE; t the TASTE as it is; m MINUTES; f FIRE; i which TASTE; w how much is in of all.");
        SoupCourt x = new SoupCourt();
        for (int thing = 0; thing < 8; thing++) {
            x.mend(10 * thing + 3, 0, 9);
        }
        x.row(0, 0, 0);
        bytes(x, 1, 9, 9, 9, 9, 9, 9, 9, 9);
        String[] texts = {"s=648", "s=0", "w=72", "w=0", "i=3", "i=0", "i=4", "m=0", "t=0", "f=5"};
        // of the full MIX: in TASTE 3, in TASTE 0, all five; then all five of the empty one
        int[][] by = {{1, 0, 1, 0}, {0, 1, 4, 5}, {1, 1, 5, 0}, {0, 0, 0, 5}, {1, 0, 1, 1}, {0, 1, 1, 1}, {0, 0, 1, 1}, {1, 1, 5, 5}, {1, 1, 5, 5}, {1, 1, 5, 5}};
        for (int i = 0; i < texts.length; i++) {
            due("a law", lawOf(x, texts[i]), 1);
            due(texts[i] + " in 3", x.taste(1, 1, 3), by[i][0]);
            due(texts[i] + " in 0", x.taste(1, 1, 0), by[i][1]);
            due(texts[i] + " in all", x.taste(1, 1, 5), by[i][2]);
            due(texts[i] + " of none", x.taste(0, 1, 5), by[i][3]);
        }
        SoupCourt y = withLaw("m<6?20;t=99?0-1;m=60?0-9;m=98?0-20;0");
        emptyPot(y);
        for (int m = 0; m < 98; m++) {
            y.minute();
        }
        due("t was 99 once, m was 60 once", y.potOf(0), 89);
        y.minute();
        due("m was 98", y.potOf(0), 69);
    }

    private static void sixAreOpen() {
        sentence("Terms 1", "At most 6 of ( ! - ahead of an O are open at once.");
        String[] signs = {"(", "!", "-"};
        for (String sign : signs) {
            String close = sign.equals("(") ? ")" : "";
            due("six " + sign, lawOf(new SoupCourt(), times(6, sign) + "7" + times(6, close)), 1);
            faultAt(6, times(7, sign) + "7" + times(7, close), times(8, sign));
            faultAt(6, times(6, sign));
            for (String inner : signs) {
                faultAt(6, times(6, sign) + inner + "7");
            }
        }
        gives("!-!-!-7", 0);
        gives("-!-!-!0", -1);
        gives("(-(!(-0)))", -1);
        gives("(((((7)))))+((((((7))))))", 14);
        // in each E of a LINE, and in each LINE
        gives("((((((1))))))?------7", 7);
        gives("!!!!!!0?9;((((((7))))))", 7);
        faultAt(6, "(((((((1)))))))?7", "-------1");
        faultAt(8, "1?(((((((7", "1?!!!!!!!7");
        faultAt(10, "0?9;-(-(-((7");
        // what has ended is open no more
        gives("-----7+------7", 0);
        gives("(-----7)+------7", 0);
        gives("-(((((7)))))+(((((7)))))", 0);
        gives("1------7", 8);
        faultAt(8, "1-------" + "-7");
        faultAt(15, "(-----7)-(-----(7))");
        faultAt(10, "(7)*(((((((7");
        faultAt(11, "((!(7)-(((((7");
    }

    private static void intsThatWrap() {
        sentence("Terms 1", "Ints that wrap;");
        String least = "8192*8192*32";
        gives("46341*46341<0".replace("46341", "(9999*4+6345)"), 1);
        gives("46340*46340>0".replace("46340", "(9999*4+6344)"), 1);
        gives(least + "<0", 1);
        gives(least + "-1>0", 1);
        gives(least + "-1+1<0", 1);
        gives("-(" + least + ")=" + least, 1);
        gives(least + "+" + least, 0);
        gives(least + "*2", 0);
        gives("4096*4096*256", 0);
        gives("4096*4096*256+7", 7);
        gives("(" + least + ")/-1<0", 1);
        gives("(" + least + ")%-1", 0);
    }

    private static void byZero() {
        sentence("Terms 1", "/ and % toward 0, by 0 they give 0;");
        String[] texts = {"7/2", "-7/2", "7/-2", "-7/-2", "7%2", "-7%2", "7%-2", "-7%-2", "1/2", "-1/2", "6/7", "0-1/9", "6%7", "0%7",
            "7/0", "7%0", "-7/0", "-7%0", "0/0", "0%0", "5+7/0", "5+7%0", "7/s", "7%s", "7/0/0", "7/(1-1)%0"};
        int[] by = {3, -3, -3, 3, 1, -1, 1, -1, 0, 0, 0, 0, 6, 0, 0, 0, 0, 0, 0, 0, 5, 5, 0, 0, 0, 0};
        for (int i = 0; i < texts.length; i++) {
            gives(texts[i], by[i]);
        }
    }

    private static void oneAndZero() {
        sentence("Terms 1", "| & < = > ! give 1, 0; all is worked out.");
        String[] texts = {"9|9", "9|0", "0|9", "0|0", "9&9", "9&0", "0&9", "0&0", "2&4", "8|4", "!9", "!0", "!-1", "-1<0", "0<-1", "-1>0", "0>-1",
            "-1=-1", "-1|0", "-1&-1", "5*(9>1)", "5*!3", "1|7/0", "0&7/0", "0|7/0", "1&7%0", "(0|8)+(8&8)+!0+(1<2)+(2=2)+(2>1)"};
        int[] by = {1, 1, 1, 0, 1, 0, 0, 0, 1, 1, 0, 1, 0, 1, 0, 0, 1, 1, 1, 1, 5, 0, 1, 0, 0, 0, 6};
        for (int i = 0; i < texts.length; i++) {
            gives(texts[i], by[i]);
        }
    }

    private static void whichLineCounts() {
        sentence("Terms 1", "The first LINE without a first E, or whose first E is not 0, counts; none: 0.");
        gives("7;9", 7);
        gives("0;9", 0);
        gives("0?7;9", 9);
        gives("0?7;5?8;9", 8);
        gives("0?7;0?8;0?9;1", 1);
        gives("9;1?7", 9);
        gives("0?7;0?8", 0);
        gives("0?7", 0);
        gives("1?0;9", 0);
        gives("0?7;0-1;9", -1);
    }

    private static void theFault() {
        sentence("Terms 1", "FAULT: the place (from 0) of the first byte with which no TEXT goes on; the length, if it ends too early.");
        faultAt(0, "", "+", "=7", ")", "q");
        faultAt(1, "(", "-", "7q", "7)7", "7(");
        faultAt(119, times(59, "7+") + "7q", times(59, "7+") + "7)");
        faultAt(120, times(60, "7+"), times(60, "7;"), "7?" + times(59, "w|"));
        faultAt(118, times(59, "7+"), times(59, "7+") + "q7");
        faultAt(4, "7+7+q+q+q", "7+7+;", "s*t+");
        // the first one is told, not the worst
        faultAt(2, "7+*)7", "7;?7?7");
    }

    private static void growthIsHeld() {
        sentence("Terms 1", "It gives by how much a TASTE grows in a minute (held within -20 .. 20; the TASTE within 0 .. 99).");
        String[] texts = {"19", "20", "21", "9999", "-19", "-20", "-21", "-9999", "8192*8192*32", "8192*8192*32-1", "9999*9999"};
        int[] by = {19, 20, 20, 20, -19, -20, -20, -20, -20, 20, 20};
        for (int i = 0; i < texts.length; i++) {
            gives(texts[i], by[i]);
        }
        SoupCourt x = withLaw("m<4?20;m=4?18;m=5?1;m=6?1;m<11?0-20;m=11?2;m<14?0-1;0");
        x.row(0, 0, 0);
        int[] tastes = {0, 20, 40, 60, 80, 98, 99, 99, 79, 59, 39, 19, 21, 20, 19, 19};
        for (int n = 0; n < tastes.length; n++) {
            due("TASTE behind " + n, x.taste(0, n, 2), tastes[n]);
        }
        lawOf(x, "m=0?1;m=1?0-1;m=2?0-1;m=3?3;m=4?0-20;0");
        int[] low = {0, 1, 0, 0, 3, 0, 0};
        for (int n = 0; n < low.length; n++) {
            due("TASTE near 0 behind " + n, x.taste(0, n, 2), low[n]);
        }
    }

    private static void withoutAText() {
        sentence("Terms 1", "Without a text: s by 4 (cut), less t by 10 (cut), and f by 5 (cut), if s is above 0.");
        SoupCourt x = new SoupCourt();
        x.mend(0, 0, 1);
        // s is 0 .. 9 in the first minute
        int[][] byFire = {{0, 0, 0, 0, 0, 1, 1, 1, 1, 2, 2}, {4, 0, 0, 0, 0, 1, 1, 1, 1, 2, 2}, {5, 0, 1, 1, 1, 2, 2, 2, 2, 3, 3}, {9, 0, 1, 1, 1, 2, 2, 2, 2, 3, 3}};
        for (int[] row : byFire) {
            x.mend(0, 4, row[0]);
            for (int s = 0; s <= 9; s++) {
                bytes(x, 0, s);
                due("s " + s + " on FIRE " + row[0], x.taste(0, 1, 0), row[1 + s]);
            }
        }
        // s is 40: 10 a minute, less t by 10
        x.mend(0, 4, 4);
        x.mend(0, 0, 8);
        bytes(x, 0, 5);
        int[] tastes = {0, 10, 19, 28, 36, 43, 49, 55, 60, 64, 68, 72, 75, 78, 81, 83};
        for (int n = 0; n < tastes.length; n++) {
            due("s 40 behind " + n, x.taste(0, n, 0), tastes[n]);
        }
        due("s 0 behind 60", x.taste(0, 60, 1), 0);
        // in deed s can become 0 under a TASTE: it is less by t by 10 then, and FIRE gives nothing
        x.house();
        x.mend(0, 1, 5);
        x.mend(0, 4, 9);
        x.pot(0, 0);
        x.minute();
        due("s 40 on FIRE 9", x.potOf(0), 11);
        x.mend(0, 0, 0);
        x.minute();
        due("s 0, t 11", x.potOf(0), 10);
        x.minute();
        due("s 0, t 10", x.potOf(0), 9);
        x.minute();
        due("s 0, t 9", x.potOf(0), 9);
        x.mend(0, 0, 9);
        bytes(x, 1, 9);
        due("held as by a text: s is 81, so it would be 21", x.taste(1, 1, 0), 20);
    }
}
