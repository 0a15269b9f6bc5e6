/** Terms 2 to 4 of the document: each sentence that names a boundary, by a test of its own. */
public final class Terms2To4EdgeTest extends Edges {
    public static void main(String[] args) {
        tasteBehind();
        best();
        bestOfLikeOnes();
        nearestBehind();
        nearestMixes();
        nearestOfLikeOnes();
        apart();
        jury();
        juryOfEachTwo();
        juryOfLikeOnes();
        inHouse();
        inHouseLeastMix();
        inHouseLeastAndMost();
        eatenAndBurnt();
        lentFact();
        bought();
        lent();
        whoCould();
        pots();
        onFires();
        firesOfLikeOnes();
        turns();
        turnsDeeds();
        turnsWants();
        turnsOfLikeOnes();
        drawn();
        drawnAllFive();
        potInDeed();
        changes();
        changesDoneAgain();
        fortyAreKept();
        deedsAreNone();
        image();
        end("Terms 2", "Terms 3", "Terms 4");
    }

    /** A HOUSE that HAS so much of THINGS 0 on; a law. */
    private static SoupCourt houseWith(String law, int... has) {
        SoupCourt x = withLaw(law);
        x.house();
        for (int thing = 0; thing < has.length; thing++) {
            x.mend(thing, 1, has[thing]);
        }
        return x;
    }

    private static int[] all(int v) {
        return new int[] {v, v, v, v, v};
    }

    // ---- Terms 2

    private static void tasteBehind() {
        sentence("Terms 2", "a POT from a MIX (no HOUSE): a TASTE behind n (0 .. 60) minutes; all five together;");
        edgesOfAll("n", 0, 60, (c, v) -> c.taste(0, v, 0));
        edgesOfAll("TASTE, or all five", 0, 5, (c, v) -> c.taste(0, 60, v));
        SoupCourt x = withLaw("m=59?7;m=0?i;0");
        x.row(0, 0, 0);
        due("no HOUSE is needed", x.count(0), 0);
        dues("behind 0", x, (c, v) -> c.taste(0, 0, v), 0, 0, 0, 0, 0, 0);
        dues("behind 1", x, (c, v) -> c.taste(0, 1, v), 0, 1, 2, 3, 4, 10);
        dues("behind 59", x, (c, v) -> c.taste(0, 59, v), 0, 1, 2, 3, 4, 10);
        dues("behind 60", x, (c, v) -> c.taste(0, 60, v), 7, 8, 9, 10, 11, 45);
        changesNothing("taste()", c -> c.taste(0, 60, 5));
    }

    private static void best() {
        sentence("Terms 2", "BEST: behind how many minutes (0 .. 60) it is least FAR from a told soup (a ROW of five bytes 0 .. 99):");
        SoupCourt x = withLaw("m=59?9;0");
        x.row(0, 0, 0);
        bytes(x, 1, all(0));
        dues("best at 0: which, how FAR", x, (c, v) -> c.best(1, v), 0, 0);
        bytes(x, 1, all(99));
        dues("best at 60: which, how FAR", x, (c, v) -> c.best(1, v), 60, 450);
        lawOf(x, "m=58?9;m=59?0-9;0");
        dues("best at 59: which, how FAR", x, (c, v) -> c.best(1, v), 59, 450);
        lawOf(x, "m=60?9;0");
        dues("a 61st minute is not looked at: which, how FAR", x, (c, v) -> c.best(1, v), 0, 495);
        soupEdges("best()", c -> c.best(2, 0));
        changesNothing("best()", c -> c.best(1, 0));
    }

    private static void bestOfLikeOnes() {
        sentence("Terms 2", "which (of like ones the least); how FAR.");
        SoupCourt x = withLaw("m=3?9;m=7?0-9;m=20?9;m=40?2;0");
        x.row(0, 0, 0);
        bytes(x, 1, all(9));
        dues("at 4 .. 7 and 21 .. 40: which, how FAR", x, (c, v) -> c.best(1, v), 4, 0);
        bytes(x, 1, all(10));
        dues("9 at 4, 11 at 41: which, how FAR", x, (c, v) -> c.best(1, v), 4, 5);
        bytes(x, 1, all(11));
        dues("at 41 on: which, how FAR", x, (c, v) -> c.best(1, v), 41, 0);
        lawOf(x, "0");
        dues("all alike: which, how FAR", x, (c, v) -> c.best(1, v), 0, 55);
    }

    private static void nearestBehind() {
        sentence("Terms 2", "NEAREST: of a HOUSE, behind n (0 .. 10) minutes");
        for (int house = 0; house < 2; house++) {
            int of = 100 * house;
            edges("n of HOUSE " + house, 0, 10, (c, v) -> v < 0 ? c.nearest(1, -1, -1) : c.nearest(1, of + v, -1));
            bad("n 99 of HOUSE " + house, c -> c.nearest(1, of + 99, -1));
        }
        SoupCourt x = houseWith("m=9?7;0");
        bytes(x, 1, all(7));
        due("behind 0", x.nearest(1, 0, -1), 35);
        due("behind 9", x.nearest(1, 9, -1), 35);
        due("behind 10", x.nearest(1, 10, -1), 0);
        changesNothing("nearest()", c -> c.nearest(1, 10, -1));
    }

    private static void nearestMixes() {
        sentence("Terms 2", "the MIX of THINGS 0 .. 3 alone (0 .. 2 of each, no more than it HAS) least FAR from a told soup: how FAR;");
        int[][] has = {{}, {9, 9, 9, 9, 9, 9, 9, 9}, {2, 2, 2, 2}, {1, 0, 2, 9}, {0, 0, 0, 0, 9, 9, 9, 9}, {3, 0, 0, 0}, {0, 0, 0, 1}};
        int[] far = {45, 5, 5, 20, 45, 35, 40};
        int[][] mix = {{0, 0, 0, 0}, {2, 2, 2, 2}, {2, 2, 2, 2}, {1, 0, 2, 2}, {0, 0, 0, 0}, {2, 0, 0, 0}, {0, 0, 0, 1}};
        for (int i = 0; i < has.length; i++) {
            SoupCourt x = houseWith("w", has[i]);
            bytes(x, 1, all(9));
            dues("larder " + i + ": how FAR, THING by THING", x, (c, v) -> c.nearest(1, 1, v - 1), far[i], mix[i][0], mix[i][1], mix[i][2], mix[i][3]);
            bytes(x, 1, all(0));
            dues("larder " + i + ": none is nearest", x, (c, v) -> c.nearest(1, 1, v - 1), 0, 0, 0, 0, 0);
        }
        edgesOfAll("k", -1, 3, (c, v) -> c.nearest(1, 3, v));
    }

    private static void nearestOfLikeOnes() {
        sentence("Terms 2", "how much of the k-th THING (of like ones the least of all together, then the first by numbers, THING by THING).");
        SoupCourt x = houseWith("w", 9, 9, 9, 9);
        bytes(x, 1, all(3));
        dues("three of all", x, (c, v) -> c.nearest(1, 1, v), 0, 0, 1, 2);
        lawOf(x, "w*2");
        dues("one or two of all", x, (c, v) -> c.nearest(1, 1, v), 0, 0, 0, 1);
        lawOf(x, "0");
        dues("all alike", x, (c, v) -> c.nearest(1, 1, v), 0, 0, 0, 0);
        lawOf(x, "s");
        x.mend(0, 0, 3);
        x.mend(10, 0, 2);
        x.mend(30, 0, 1);
        bytes(x, 1, 4, 0, 0, 0, 0);
        dues("1 0 0 1, 0 2 0 0 and 0 1 0 2 fit", x, (c, v) -> c.nearest(1, 1, v), 0, 2, 0, 0);
        bytes(x, 1, 3, 0, 0, 0, 0);
        dues("1 0 0 0 and 0 1 0 1 fit: the least of all comes ahead of the first by numbers", x, (c, v) -> c.nearest(1, 1, v), 1, 0, 0, 0);
    }

    private static void apart() {
        sentence("Terms 2", "APART: whether a NOSE tells two soups: some TASTE of its WHICH is KEEN or more apart.");
        SoupCourt x = new SoupCourt();
        x.nose(10);
        bytes(x, 0, all(0));
        int[] by = {9, 10, 11, 99};
        int[] tells = {0, 1, 1, 1};
        for (int i = 0; i < by.length; i++) {
            bytes(x, 1, 0, 0, by[i], 0, 0);
            due("apart by " + by[i], x.apart(1, 0), tells[i]);
            due("the other way by " + by[i], x.apart(10, 0), tells[i]);
        }
        x.mend(0, 3, 27);
        due("none of its WHICH", x.apart(1, 0), 0);
        x.mend(0, 3, 0);
        bytes(x, 1, all(99));
        due("no TASTE at all", x.apart(1, 0), 0);
        due("a soup and itself", x.apart(11, 0), 0);
        edges(State.AT_ITS_ENDS, "NOSE", 0, 7, (c, v) -> c.apart(11, v));
        farOff("NOSE", (c, v) -> c.apart(11, v));
        changesNothing("apart()", c -> c.apart(11, 0));
    }

    /** Soup 0, and for each of five TASTES a soup that is 10 apart from it in this one alone; more soups like soup 0. */
    private static int[] starOfSoups(int soups) {
        int[] row = new int[5 * soups];
        for (int i = 1; i <= 5 && i < soups; i++) {
            row[5 * i + i - 1] = 10;
        }
        return row;
    }

    /** NOSES that each know one TASTE. */
    private static SoupCourt oneTasteNoses(int noses) {
        SoupCourt x = new SoupCourt();
        for (int nose = 0; nose < noses; nose++) {
            x.nose(10);
            x.mend(nose, 3, 1 << nose % 5);
        }
        return x;
    }

    private static void jury() {
        sentence("Terms 2", "JURY: of some soups (a ROW of bytes, five to a soup, 6 soups at most; it ends with what is none)");
        SoupCourt x = oneTasteNoses(5);
        for (int soups = 0; soups <= 6; soups++) {
            bytes(x, 0, starOfSoups(soups));
            dues(soups + " soups: how many, which", x, (c, v) -> c.jury(0, v), Math.max(0, soups - 1), (1 << Math.max(0, soups - 1)) - 1);
        }
        bytes(x, 0, starOfSoups(7));
        dues("a 7th that none could tell from the first", x, (c, v) -> c.jury(0, v), 5, 31);
        int[][] ends = {{100, 0}, {-1, 0}, {0, 100}, {0, -1}, {127, 0}, {0, -128}};
        for (int[] end : ends) {
            int[] row = starOfSoups(6);
            row[15] = end[0];
            row[19] = end[1];
            bytes(x, 0, row);
            dues("it ends with the 4th: how many, which", x, (c, v) -> c.jury(0, v), 2, 3);
        }
        for (int more = 1; more < 5; more++) {
            bytes(x, 0, java.util.Arrays.copyOf(starOfSoups(6), 15 + more));
            dues(more + " bytes of a 4th: how many, which", x, (c, v) -> c.jury(0, v), 2, 3);
        }
        bytes(x, 0, 100, 0, 0, 0, 0, 0, 0, 0, 0, 0, 0, 0, 0, 0, 0);
        dues("it ends at once: how many, which", x, (c, v) -> c.jury(0, v), 0, 0);
        bytes(x, 0, 99, 99, 99, 99, 99, 0, 0, 0, 0, 0);
        dues("99 is one: how many, which", x, (c, v) -> c.jury(0, v), 1, 1);
        changesNothing("jury()", c -> c.jury(1, 0));
    }

    private static void juryOfEachTwo() {
        sentence("Terms 2", "the fewest NOSES by which each two of them are told by one at least: how many;");
        SoupCourt x = oneTasteNoses(4);
        bytes(x, 0, starOfSoups(6));
        dues("no NOSE tells the 6th from the first", x, (c, v) -> c.jury(0, v), NOT, NOT);
        x.nose(11);
        dues("nor does one that is not so keen", x, (c, v) -> c.jury(0, v), NOT, NOT);
        x.nose(10);
        dues("one tells them all", x, (c, v) -> c.jury(0, v), 1, 32);
        x.mend(5, 3, 16);
        dues("each of five tells two", x, (c, v) -> c.jury(0, v), 5, 1 + 2 + 4 + 8 + 32);
        x.mend(5, 3, 24);
        dues("one tells two by each of two TASTES", x, (c, v) -> c.jury(0, v), 4, 1 + 2 + 4 + 32);
        for (int one = 0; one < 6; one++) {
            for (int other = one + 1; other < 6; other++) {
                twoOfSixAlike(one, other);
            }
        }
        SoupCourt y = new SoupCourt();
        bytes(y, 0, starOfSoups(2));
        dues("no NOSES, two soups", y, (c, v) -> c.jury(0, v), NOT, NOT);
        bytes(y, 0, starOfSoups(1));
        dues("no NOSES, one soup", y, (c, v) -> c.jury(0, v), 0, 0);
    }

    private static void twoOfSixAlike(int one, int other) {
        SoupCourt x = new SoupCourt();
        x.nose(1);
        int[] row = new int[30];
        for (int i = 0; i < 6; i++) {
            row[5 * i + 2] = i;
        }
        bytes(x, 0, row);
        dues("six unlike soups", x, (c, v) -> c.jury(0, v), 1, 1);
        row[5 * other + 2] = one;
        bytes(x, 0, row);
        dues("soups " + one + " and " + other + " alike", x, (c, v) -> c.jury(0, v), NOT, NOT);
    }

    private static void juryOfLikeOnes() {
        sentence("Terms 2", "which (bits; of like ones the least); NOT.");
        SoupCourt x = oneTasteNoses(8);
        bytes(x, 0, starOfSoups(4));
        dues("5, 6, 7 are like 0, 1, 2", x, (c, v) -> c.jury(0, v), 3, 7);
        x.mend(2, 3, 0);
        dues("7 alone is left for one", x, (c, v) -> c.jury(0, v), 3, 1 + 2 + 128);
        x.mend(7, 3, 0);
        dues("none is left for it", x, (c, v) -> c.jury(0, v), NOT, NOT);
        x.mend(6, 3, 7);
        dues("one for all comes ahead of three that are less by bits", x, (c, v) -> c.jury(0, v), 1, 64);
    }

    // ---- Terms 3

    private static void inHouse() {
        sentence("Terms 3", "IN THE HOUSE: by how many MIXES of THINGS 0 .. 3 (0 .. 3 of each, no more than it HAS) a told soup is just what it is behind n (0 .. 10) minutes;");
        int[][] has = {{}, {9, 9, 9, 9, 9, 9, 9, 9}, {3, 3, 3, 3}, {4, 4, 4, 4}, {1, 0, 2, 9}, {0, 0, 0, 0, 9, 9, 9, 9}};
        int[] mixes = {1, 256, 256, 256, 24, 1};
        int[] most = {0, 12, 12, 12, 6, 0};
        for (int i = 0; i < has.length; i++) {
            SoupCourt x = houseWith("0", has[i]);
            bytes(x, 1, all(0));
            due("larder " + i + ", all MIXES fit", x.inHouse(1, 10, 0), mixes[i]);
            lawOf(x, "w");
            bytes(x, 1, all(most[i]));
            due("larder " + i + ", the most that can be in", x.inHouse(1, 1, 0), 1);
            bytes(x, 1, all(most[i] + 1));
            due("larder " + i + ", one more", x.inHouse(1, 1, 0), 0);
        }
        SoupCourt x = houseWith("m=9?7;0");
        bytes(x, 1, all(7));
        due("behind 9", x.inHouse(1, 9, 0), 0);
        due("behind 10", x.inHouse(1, 10, 0), 1);
        bytes(x, 1, all(0));
        due("behind 0", x.inHouse(1, 0, 0), 1);
        for (int i = 0; i < 5; i++) {
            bytes(x, 1, all(0));
            x.put(1, i, 1);
            due("not just what it is in " + i, x.inHouse(1, 0, 0), 0);
        }
        edges("n", 0, 10, (c, v) -> v < 0 ? c.inHouse(1, -1, 0) : c.inHouse(1, 100 + v, 0));
        bad("n 99", c -> c.inHouse(1, 99, 0));
        changesNothing("inHouse()", c -> c.inHouse(1, 10, 20));
    }

    private static void inHouseLeastMix() {
        sentence("Terms 3", "the least (as 64 times that of 0, 16 times that of 1, 4 times that of 2, and that of 3; NOT);");
        int[] weights = {64, 16, 4, 1};
        for (int thing = 0; thing < 4; thing++) {
            int[] has = new int[4];
            has[thing] = 3;
            SoupCourt x = houseWith("w", has);
            for (int w = 0; w <= 3; w++) {
                bytes(x, 1, all(w));
                due(w + " of " + thing, x.inHouse(1, 1, 1), w * weights[thing]);
            }
            bytes(x, 1, all(4));
            due("4 of " + thing, x.inHouse(1, 1, 1), NOT);
        }
        SoupCourt x = houseWith("w", 9, 9, 9, 9);
        int[] due = {0, 1, 2, 3, 7, 11, 15, 31, 47, 63, 127, 191, 255};
        for (int w = 0; w <= 12; w++) {
            bytes(x, 1, all(w));
            due(w + " in all", x.inHouse(1, 1, 1), due[w]);
        }
    }

    private static void inHouseLeastAndMost() {
        sentence("Terms 3", "the least of a told THING in any of them; the most (NOT).");
        SoupCourt x = houseWith("w", 9, 3, 2, 0);
        int[][] least = {{0, 0, 0, 0}, {2, 2, 1, 0}, {3, 3, 2, 0}};
        int[][] most = {{0, 0, 0, 0}, {3, 3, 2, 0}, {3, 3, 2, 0}};
        int[] in = {0, 7, 8};
        for (int i = 0; i < in.length; i++) {
            bytes(x, 1, all(in[i]));
            for (int thing = 0; thing < 4; thing++) {
                due("least of " + thing + " of " + in[i], x.inHouse(1, 1, 10 + thing), least[i][thing]);
                due("most of " + thing + " of " + in[i], x.inHouse(1, 1, 20 + thing), most[i][thing]);
            }
        }
        bytes(x, 1, all(9));
        due("none fits", x.inHouse(1, 1, 0), 0);
        for (int thing = 0; thing < 4; thing++) {
            due("least of " + thing, x.inHouse(1, 1, 10 + thing), NOT);
            due("most of " + thing, x.inHouse(1, 1, 20 + thing), NOT);
        }
        edges("least", 10, 13, (c, v) -> v < 10 || v > 13 ? c.inHouse(1, 3, v) : Math.abs(c.inHouse(1, 3, v)));
        edges("most", 20, 23, (c, v) -> v < 20 || v > 23 ? c.inHouse(1, 3, v) : Math.abs(c.inHouse(1, 3, v)));
    }

    private static void eatenAndBurnt() {
        sentence("Terms 3", "FACTS: 0 eaten (a THING one less in a HOUSE), 1 burnt (all of it gone)");
        SoupCourt x = houseWith("0", 9, 1, 0, 0, 0, 0, 9, 1);
        for (int left = 8; left >= 0; left--) {
            due("eaten", x.fact(0, 0), left);
        }
        due("none is left to eat", x.fact(0, 0), STATE);
        due("burnt, of 9", x.fact(1, 60), 0);
        due("burnt, of 1", x.fact(1, 10), 0);
        due("none is left to burn", x.fact(1, 10), STATE);
        due("another THING stays", x.of(7, 1), 1);
        refused(State.AT_ITS_ENDS, "eaten of none", STATE, c -> c.fact(0, 70));
        refused(State.AT_ITS_ENDS, "burnt of none", STATE, c -> c.fact(1, 70));
        edgesOfAll("FACT", 0, 3, (c, v) -> c.fact(v, v == 2 ? 1 + 10 : 10));
    }

    private static void lentFact() {
        sentence("Terms 3", "2 lent (one from a HOUSE to another one; 9 at most: STATE)");
        SoupCourt x = houseWith("0", 3);
        x.house();
        x.mend(10, 1, 7);
        due("lent", x.fact(2, 1), 2);
        due("lent, the 9th", x.fact(2, 1), 1);
        due("by the other one", x.of(10, 1), 9);
        due("the other one HAS 9", x.fact(2, 1), STATE);
        due("and back", x.fact(2, 100), 8);
        due("by the one", x.of(0, 1), 2);
        refused(State.MIDST, "lent to one that HAS 9", STATE, c -> c.fact(2, 1));
        refused(State.AT_ITS_ENDS, "lent of none", STATE, c -> c.fact(2, 5));
        refused(State.AT_ITS_ENDS, "lent of none to one that HAS 9", STATE, c -> c.fact(2, 75));
        refused("lent to the same", BAD, c -> c.fact(2, 0));
        refused("lent by 1 to the same", BAD, c -> c.fact(2, 101));
    }

    private static void bought() {
        sentence("Terms 3", "3 bought (one more; 9 at most: STATE).");
        SoupCourt x = houseWith("0");
        for (int has = 1; has <= 9; has++) {
            due("bought", x.fact(3, 40), has);
        }
        due("a 10th", x.fact(3, 40), STATE);
        due("as it was", x.of(4, 1), 9);
        refused(State.MIDST, "a 10th", STATE, c -> c.fact(3, 100));
        refused(State.AT_ITS_ENDS, "a 10th", STATE, c -> c.fact(3, 570));
    }

    private static void lent() {
        sentence("Terms 3", "LENT: how few must be lent, one after the other, by any HOUSE that HAS it, so that a HOUSE HAS a told MIX: how many; NOT.");
        SoupCourt x = houseWith("0", 4, 0, 9);
        bytes(x, 0, 4, 0, 9);
        due("it HAS just so much", x.lent(0, 0), 0);
        bytes(x, 0, 5, 0, 9);
        due("there is no other HOUSE", x.lent(0, 0), NOT);
        for (int house = 1; house < 6; house++) {
            x.house();
            due("none HAS one", x.lent(0, 0), NOT);
        }
        x.mend(50, 1, 1);
        due("the last one HAS one", x.lent(0, 0), 1);
        due("the last one lacks 4 and 9, and the first HAS just so much", x.lent(0, 5), 4 + 9);
        x.mend(0, 1, 3);
        due("two lack, one is there", x.lent(0, 0), NOT);
        x.mend(30, 1, 1);
        due("by two HOUSES, one each", x.lent(0, 0), 2);
        bytes(x, 1, 9, 9, 9, 9, 9, 9, 9, 9);
        for (int thing = 0; thing < 8; thing++) {
            x.mend(thing, 1, 0);
            x.mend(10 + thing, 1, 9);
        }
        due("as many as can be", x.lent(1, 0), 72);
        x.mend(17, 1, 8);
        due("one less than wanted", x.lent(1, 0), NOT);
        x.row(2, 0, 0);
        due("nothing is wanted", x.lent(2, 0), 0);
        due("all in thought", x.of(0, 1), 0);
        changesNothing("lent()", c -> c.lent(0, 0));
    }

    private static void whoCould() {
        sentence("Terms 3", "WHO COULD: which HOUSES (bits) HAVE a told MIX.");
        SoupCourt x = new SoupCourt();
        bytes(x, 0, 0, 0, 0, 0, 0, 0, 0, 4);
        due("no HOUSES", x.whoCould(0), 0);
        x.row(1, 0, 0);
        for (int house = 0; house < 6; house++) {
            x.house();
            x.mend(10 * house + 7, 1, house < 3 ? 3 : 4);
            due("each HAS nothing at least", x.whoCould(1), (2 << house) - 1);
        }
        due("3 of three, 4 of three", x.whoCould(0), 8 + 16 + 32);
        x.put(0, 7, 3);
        due("3 are enough", x.whoCould(0), 63);
        x.put(0, 7, 5);
        due("5 none HAS", x.whoCould(0), 0);
        changesNothing("whoCould()", c -> c.whoCould(0));
    }

    private static void pots() {
        sentence("Terms 3", "FIRES: pots (a ROW of bytes: MINUTES each needs, 1 .. 60; 8 at most; it ends with what is none)");
        SoupCourt x = new SoupCourt();
        int[][] rows = {{}, {1}, {60}, {61}, {0}, {-1}, {60, 61, 60}, {60, 0, 60}, {60, -1, 60}, {60, 127, 60}, {60, -128, 60},
            {60, 60, 60, 60, 60, 60, 60}, {60, 60, 60, 60, 60, 60, 60, 60}, {60, 60, 60, 60, 60, 60, 60, 60, 60}, {1, 1, 1, 1, 1, 1, 1, 1, 0}};
        int[] time = {0, 1, 60, 0, 0, 0, 60, 60, 60, 60, 60, 420, 480, 480, 8};
        int[] many = {0, 1, 1, 0, 0, 0, 1, 1, 1, 1, 1, 7, 8, 8, 8};
        for (int i = 0; i < rows.length; i++) {
            bytes(x, 0, rows[i]);
            due("time of row " + i, x.fires(0, 1, -1), time[i]);
            if (many[i] > 0) {
                due("the last pot of row " + i, x.fires(0, 1, many[i] - 1), 0);
            }
            due("a pot more of row " + i, x.fires(0, 1, many[i]), NOT);
        }
    }

    private static void onFires() {
        sentence("Terms 3", "on k (1 .. 3) fires, each whole on one: the least time behind which all are done;");
        edgesOfAll("k", 1, 3, (c, v) -> c.fires(0, v, -1));
        SoupCourt x = new SoupCourt();
        bytes(x, 0, 60, 60, 60, 60, 60, 60, 60, 60);
        dues("8 pots of 60 on 1, 2, 3 fires", x, (c, v) -> c.fires(0, v + 1, -1), 480, 240, 180);
        bytes(x, 0, 60, 1, 1);
        dues("whole on one fire", x, (c, v) -> c.fires(0, v + 1, -1), 62, 60, 60);
        bytes(x, 0, 3, 3, 2, 2, 2);
        dues("3 3, 2 2 2", x, (c, v) -> c.fires(0, v + 1, -1), 12, 6, 5);
        bytes(x, 0, 7);
        dues("one pot", x, (c, v) -> c.fires(0, v + 1, -1), 7, 7, 7);
        x.row(0, 0, 0);
        dues("no pot", x, (c, v) -> c.fires(0, v + 1, -1), 0, 0, 0);
        changesNothing("fires()", c -> c.fires(0, 3, -1));
    }

    private static void firesOfLikeOnes() {
        sentence("Terms 3", "a way: the fire of the j-th (of like ones the first by pots, fire 0 first).");
        SoupCourt x = new SoupCourt();
        bytes(x, 0, 60, 1, 1, 1);
        dues("on 3: what need not be elsewhere is on fire 0", x, (c, v) -> c.fires(0, 3, v), 0, 1, 1, 1, NOT);
        bytes(x, 0, 1, 1, 1, 60);
        dues("on 3, the long one last", x, (c, v) -> c.fires(0, 3, v), 0, 0, 0, 1, NOT);
        bytes(x, 0, 5, 5, 5, 5, 5, 5, 5, 5);
        dues("on 3, eight alike", x, (c, v) -> c.fires(0, 3, v), 0, 0, 0, 1, 1, 1, 2, 2, NOT);
        dues("on 2, eight alike", x, (c, v) -> c.fires(0, 2, v), 0, 0, 0, 0, 1, 1, 1, 1, NOT);
        dues("on 1, eight alike", x, (c, v) -> c.fires(0, 1, v), 0, 0, 0, 0, 0, 0, 0, 0, NOT);
        bytes(x, 0, 4, 3, 2, 1);
        dues("on 2: 4 1, 3 2", x, (c, v) -> c.fires(0, 2, v), 0, 1, 1, 0, NOT);
        due("j -1 is the time", x.fires(0, 2, -1), 5);
        due("j -2", x.fires(0, 2, -2), BAD);
    }

    private static void turns() {
        sentence("Terms 3", "BY TURNS: two cooks at one POT (of a MIX), n (1 .. 3) deeds in all, the first one first:");
        edgesOfAll("n", 1, 3, (c, v) -> c.byTurns(1, v, 0));
        // a minute gives as much as is in: towards 5 the first one puts one in each time, the other one never
        SoupCourt x = withLaw("w");
        x.row(0, 0, 0);
        bytes(x, 1, all(5));
        dues("how FAR by 1, 2, 3 deeds", x, (c, v) -> c.byTurns(1, v + 1, 0), 5 * (5 - 1), 5 * (5 - 1 - 1), 5 * (5 - 1 - 1 - 2));
        dues("first by 1, 2, 3 deeds", x, (c, v) -> c.byTurns(1, v + 1, 1), 0, 0, 0);
        // soup 0: the other one alone wants it in
        bytes(x, 1, all(0));
        dues("how FAR by 1, 2, 3 deeds from 0", x, (c, v) -> c.byTurns(1, v + 1, 0), 0, 5, 10);
        dues("first by 1, 2, 3 deeds from 0", x, (c, v) -> c.byTurns(1, v + 1, 1), 4, 4, 4);
        changesNothing("byTurns()", c -> c.byTurns(1, 3, 1));
    }

    private static void turnsDeeds() {
        sentence("Terms 3", "one more of a THING 0 .. 3 (9 at most of it), or nothing (4), then each time a minute passes:");
        SoupCourt x = withLaw("w=36?5;1");
        bytes(x, 0, 8, 9, 9, 9);
        bytes(x, 1, all(15));
        due("the 9th of THING 0 at once, and nothing can be put in behind it", x.byTurns(1, 3, 0), 0);
        due("its first", x.byTurns(1, 3, 1), 0);
        bytes(x, 0, 9, 9, 9, 8);
        due("the 9th of THING 3 at once", x.byTurns(1, 3, 1), 3);
        bytes(x, 0, 9, 9, 9, 9);
        bytes(x, 1, all(99));
        dues("nothing can be put in: how FAR, first", x, (c, v) -> c.byTurns(1, 3, v), 5 * (99 - 15), 4);
        bytes(x, 0, 9, 9, 9, 8, 9, 9, 9, 9);
        lawOf(x, "w=72?5;w");
        dues("THINGS 4 .. 7 stay: how FAR, first", x, (c, v) -> c.byTurns(1, 1, v), 5 * (99 - 20), 4);
        lawOf(x, "w=73?9;w=72?5;0");
        dues("there is no 73rd: how FAR, first", x, (c, v) -> c.byTurns(1, 2, v), 5 * (99 - 5 - 5), 3);
        x.row(0, 0, 0);
        lawOf(x, "m+1");
        bytes(x, 1, all(6));
        due("a minute each time, one behind the other", x.byTurns(1, 3, 0), 0);
    }

    private static void turnsWants() {
        sentence("Terms 3", "the first one wants it least FAR from a told soup behind them, the other one most: how FAR, if both do their best;");
        // THING t gives its STRENGTH in TASTE 0 each minute
        SoupCourt x = withLaw("s");
        for (int thing = 0; thing < 4; thing++) {
            x.mend(10 * thing, 0, 2 * thing + 1);
        }
        x.row(0, 0, 0);
        bytes(x, 1, 0, 0, 0, 0, 0);
        dues("nothing, then the most: how FAR, first", x, (c, v) -> c.byTurns(1, 2, v), 7, 4);
        bytes(x, 1, 99, 0, 0, 0, 0);
        dues("the most, then nothing: how FAR, first", x, (c, v) -> c.byTurns(1, 2, v), 99 - 14, 3);
        dues("the most, nothing, the most: how FAR, first", x, (c, v) -> c.byTurns(1, 3, v), 99 - 7 - 7 - 14, 3);
        // behind deeds that give a and b, each of 0 1 3 5 7, it is a + a + b; the other one takes the end that is further off
        bytes(x, 1, 6, 0, 0, 0, 0);
        dues("0 .. 7, 2 .. 9, 6 .. 13 and more around 6: how FAR, first", x, (c, v) -> c.byTurns(1, 2, v), 4, 0);
        bytes(x, 1, 8, 0, 0, 0, 0);
        dues("around 8: how FAR, first", x, (c, v) -> c.byTurns(1, 2, v), 5, 1);
        soupEdges("byTurns()", c -> c.byTurns(2, 1, 0));
    }

    private static void turnsOfLikeOnes() {
        sentence("Terms 3", "the first one's first (of like ones 4 first, then the least).");
        SoupCourt x = withLaw("0");
        x.row(0, 0, 0);
        bytes(x, 1, all(9));
        dues("all alike", x, (c, v) -> c.byTurns(1, v + 1, 1), 4, 4, 4);
        lawOf(x, "w>0");
        dues("any THING is alike, nothing is worse", x, (c, v) -> c.byTurns(1, v + 1, 1), 0, 0, 0);
        bytes(x, 0, 9, 9);
        lawOf(x, "w>18");
        dues("0 and 1 can't be put in", x, (c, v) -> c.byTurns(1, v + 1, 1), 2, 2, 2);
        lawOf(x, "w<19");
        dues("nothing is better, and 3 deeds leave one more", x, (c, v) -> c.byTurns(1, v + 1, 1), 4, 4, 4);
    }

    // ---- Terms 4

    private static int z(int seed, int minutes) {
        int z = seed;
        for (int m = 0; m < minutes; m++) {
            z = z * 1103515245 + 12345;
        }
        return (z >>> 8) % 10;
    }

    private static void drawn() {
        sentence("Terms 4", "DRAWN: n terms (1 .. 30) of m minutes (1 .. 40) by a SEED: z = z * 1103515245 + 12345 (an int; SEED at first) ahead of each minute:");
        edges("n", 1, 30, (c, v) -> c.drawn(7, 100 * v + 40, 0, 5));
        edges("m of 1 term", 1, 40, (c, v) -> c.drawn(7, 100 + v, 0, 5));
        edges("m of 30 terms", 1, 40, (c, v) -> c.drawn(7, 3000 + v, 0, 5));
        farOff("n and m", (c, v) -> c.drawn(7, v, 0, 5));
        bad("-1 term of -1 minute", c -> c.drawn(7, -101, 0, 5));
        bad("m 99", c -> c.drawn(7, 199, 0, 5));
        SoupCourt x = withLaw("f");
        x.row(0, 0, 0);
        for (int seed : new int[] {0, 1, -1, 7, LOW, HIGH, LOW + 1, 12345, -987654321}) {
            due("one minute by " + seed, x.drawn(seed, 101, 0, 0), z(seed, 1));
            due("two minutes by " + seed, x.drawn(seed, 102, 0, 0), z(seed, 1) + z(seed, 2));
            due("two terms by " + seed, x.drawn(seed, 201, 0, 0), z(seed, 1) + z(seed, 2));
        }
        lawOf(x, "m=39?9;0");
        dues("minutes 39, 40", x, (c, v) -> c.drawn(7, 139 + v, 0, 0), 0, 9);
        dues("terms 29, 30", x, (c, v) -> c.drawn(7, 2940 + 100 * v, 0, 0), 29 * 9, 30 * 9);
        changesNothing("drawn()", c -> c.drawn(7, 3040, 0, 5));
    }

    private static void drawnAllFive() {
        sentence("Terms 4", "a POT from a MIX on FIRE (z >>> 8) % 10 that minute: a TASTE at the ends, all together; all five (TASTE 5 told).");
        edgesOfAll("TASTE", 0, 5, (c, v) -> c.drawn(7, 101, 0, v));
        SoupCourt x = withLaw("i+1");
        x.row(0, 0, 0);
        dues("three terms of two minutes", x, (c, v) -> c.drawn(7, 302, 0, v), 6, 12, 18, 24, 30, 90);
        lawOf(x, "20");
        due("all that there can be", x.drawn(7, 3040, 0, 5), 30 * 5 * 99);
        lawOf(x, "0");
        due("nothing", x.drawn(7, 3040, 0, 5), 0);
        lawOf(x, "w+f*0");
        bytes(x, 0, 2, -1);
        due("a MIX that ends", x.drawn(7, 101, 0, 4), 2);
    }

    private static void potInDeed() {
        sentence("Terms 4", "a POT is put on from a HOUSE by a MIX (what goes in is gone from it; one POT at a time, the one ahead is poured away);");
        SoupCourt x = houseWith("9", 5, 0, 0, 0, 0, 0, 0, 1);
        bytes(x, 0, 3);
        bytes(x, 1, 0, 0, 0, 0, 0, 0, 0, 1);
        due("the first", x.pot(0, 0), 3);
        due("gone", x.of(0, 1), 2);
        x.minute();
        due("not so much is left", x.pot(0, 0), STATE);
        due("the one ahead stays", x.potOf(0), 9);
        due("another one", x.pot(1, 0), 1);
        dues("it is new, and alone", x, SoupCourt::potOf, 0, 0, 0, 0, 0, 0, 1);
        due("what was poured away is gone", x.of(0, 1), 2);
        due("all of THING 7 is gone", x.of(7, 1), 0);
        x.row(2, 0, 0);
        due("nothing in it", x.pot(2, 0), 0);
        due("pots", x.led(1), 3);
    }

    private static void changes() {
        sentence("Terms 4", "CHANGES (all numbers of mend(); telling the same number is none) can be UNDONE, the latest first");
        SoupCourt x = new SoupCourt();
        x.house();
        x.nose(5);
        due("none yet", x.undo(), STATE);
        int[][] told = {{74, 0, 9}, {7, 1, 9}, {0, 2, 50}, {0, 3, 0}, {0, 4, 0}};
        int[] was = {0, 0, 5, 31, 5};
        for (int i = 0; i < told.length; i++) {
            due("what it was", x.mend(told[i][0], told[i][1], told[i][2]), was[i]);
            due("a CHANGE more", x.count(3), i + 1);
            due("the same again", x.mend(told[i][0], told[i][1], told[i][2]), told[i][2]);
            due("is none", x.count(3), i + 1);
        }
        for (int i = 4; i >= 0; i--) {
            due("UNDONE", x.undo(), i);
            for (int j = 0; j < 5; j++) {
                due("number " + j, x.of(told[j][0], told[j][1]), j < i ? told[j][2] : was[j]);
            }
        }
        due("none more", x.undo(), STATE);
        refused(State.NEW, "undo() of none", STATE, SoupCourt::undo);
    }

    private static void changesDoneAgain() {
        sentence("Terms 4", "and DONE AGAIN (as long as no other came behind);");
        SoupCourt x = new SoupCourt();
        x.house();
        due("none yet", x.redo(), STATE);
        for (int v = 1; v <= 3; v++) {
            x.mend(0, 1, v);
        }
        due("none undone", x.redo(), STATE);
        for (int left = 2; left >= 0; left--) {
            due("UNDONE", x.undo(), left);
        }
        due("DONE AGAIN", x.redo(), 2);
        due("the first one first", x.of(0, 1), 1);
        due("the same number is no CHANGE", x.mend(0, 1, 1), 1);
        due("a refused one is none", x.mend(0, 1, 10), BAD);
        due("DONE AGAIN", x.redo(), 1);
        due("then the second", x.of(0, 1), 2);
        due("another one comes", x.mend(0, 4, 0), 5);
        due("none can be DONE AGAIN", x.redo(), STATE);
        due("three can be UNDONE", x.count(3), 3);
        x.undo();
        x.mend(0, 4, 1);
        due("it came in the place of the one undone", x.count(3), 3);
        due("none can be DONE AGAIN", x.redo(), STATE);
        refused(State.NEW, "redo() of none", STATE, SoupCourt::redo);
        refused(State.AT_ITS_ENDS, "redo() of none undone", STATE, SoupCourt::redo);
    }

    private static void fortyAreKept() {
        sentence("Terms 4", "40 at most are kept;");
        for (int n : new int[] {1, 39, 40, 41, 80, 81}) {
            manyFires(n);
        }
        SoupCourt x = new SoupCourt();
        tellFires(x, 0, 40);
        x.undo();
        x.undo();
        tellFires(x, 38, 40);
        due("two UNDONE leave room for two", x.count(3), 40);
        undoAll(x, 40);
        due("FIRE as at first", x.of(0, 4), 5);
        manyOfAllNumbers();
    }

    /** FIRE is told, by numbers that follow one another. */
    private static void tellFires(SoupCourt x, int from, int to) {
        for (int i = from + 1; i <= to; i++) {
            x.mend(0, 4, (5 + i) % 10);
            due("kept", x.count(3), Math.min(40, i));
        }
    }

    private static void undoAll(SoupCourt x, int kept) {
        for (int left = kept - 1; left >= 0; left--) {
            due("UNDONE", x.undo(), left);
        }
        due("no more is UNDONE", x.undo(), STATE);
    }

    private static void manyFires(int n) {
        SoupCourt x = new SoupCourt();
        int kept = Math.min(40, n);
        tellFires(x, 0, n);
        undoAll(x, kept);
        due("FIRE ahead of those kept", x.of(0, 4), (5 + n - kept) % 10);
        for (int left = kept - 1; left >= 0; left--) {
            due("DONE AGAIN", x.redo(), left);
            due("FIRE", x.of(0, 4), (5 + n - left) % 10);
        }
        due("no more is DONE AGAIN", x.redo(), STATE);
    }

    /** CHANGES of all five numbers, more than are kept: each step back and on shows the one that it is about. */
    private static void manyOfAllNumbers() {
        SoupCourt x = new SoupCourt();
        x.house();
        x.nose(1);
        int[][] told = new int[47][];
        int[] was = new int[47];
        for (int i = 0; i < 47; i++) {
            int[][] numbers = {{i % 40 / 5 * 10 + i % 5, 0}, {i % 8, 1}, {0, 2}, {0, 3}, {0, 4}};
            int[] number = numbers[i * i % 11 % 5];
            told[i] = number;
            was[i] = x.of(number[0], number[1]);
            due("what it was", x.mend(number[0], number[1], was[i] % 9 + 1), was[i]);
            due("it becomes", x.of(number[0], number[1]), was[i] % 9 + 1);
        }
        for (int i = 46; i >= 7; i--) {
            due("UNDONE", x.undo(), i - 7);
            due("as it was ahead of CHANGE " + i, x.of(told[i][0], told[i][1]), was[i]);
        }
        due("no more is UNDONE", x.undo(), STATE);
        for (int i = 7; i < 47; i++) {
            due("DONE AGAIN", x.redo(), 46 - i);
            due("as CHANGE " + i + " told", x.of(told[i][0], told[i][1]), was[i] % 9 + 1);
        }
        due("no more is DONE AGAIN", x.redo(), STATE);
    }

    private static void deedsAreNone() {
        sentence("Terms 4", "deeds are none (what HOUSES HAVE by them, too).");
        SoupCourt x = houseWith("9");
        x.house();
        x.nose(1);
        bytes(x, 0, 1);
        bytes(x, 1, all(0));
        bytes(x, 2, 1, 9);
        x.mend(0, 4, 9);
        x.undo();
        x.fact(3, 0);
        x.fact(3, 0);
        x.fact(2, 1);
        x.fact(0, 100);
        x.fact(3, 0);
        x.pot(0, 0);
        x.minute();
        x.spoon(1, 0);
        x.things(2, 0, 1);
        x.image();
        x.back();
        due("none can be UNDONE", x.count(3), 0);
        due("nothing to undo", x.undo(), STATE);
        due("the one that was UNDONE can be DONE AGAIN still", x.redo(), 0);
        due("FIRE", x.of(0, 4), 9);
        due("HAS by the deeds", x.of(0, 1), 1);
        x.mend(0, 1, 7);
        x.fact(0, 0);
        due("a CHANGE of HAS goes back to what it was ahead of it", x.undo(), 1);
        due("HAS", x.of(0, 1), 1);
        due("and on to what was told", x.redo(), 0);
        due("HAS", x.of(0, 1), 7);
    }

    private static void image() {
        sentence("Terms 4", "AN IMAGE keeps what all HOUSES HAVE, the POT, what LED tells (laid back, CHANGES stay as they are).");
        SoupCourt x = houseWith("9", 9, 9, 9, 9, 9, 9, 9, 9);
        x.nose(1);
        due("at once: no POT", x.image(), 0);
        bytes(x, 0, 9, 9, 9, 9, 9, 9, 9, 9);
        bytes(x, 1, all(0));
        x.pot(0, 0);
        x.minute();
        x.spoon(1, 0);
        x.fact(3, 0);
        x.mend(0, 4, 9);
        x.mend(0, 0, 9);
        x.undo();
        due("laid back", x.back(), 0);
        dues("HAS", x, (c, v) -> c.of(v, 1), 9, 9, 9, 9, 9, 9, 9, 9);
        dues("no POT", x, SoupCourt::potOf, STATE, STATE, STATE, STATE, STATE, STATE, STATE);
        dues("LED", x, SoupCourt::led, 0, 0, 0, 0, 0);
        due("CHANGES stay: FIRE", x.of(0, 4), 9);
        due("CHANGES stay: UNDONE", x.undo(), 8);
        dues("CHANGES stay: DONE AGAIN", x, (c, v) -> c.redo(), 1, 0, STATE);
        x.pot(0, 0);
        x.minute();
        due("a later one", x.image(), 1);
        x.minute();
        due("laid back", x.back(), 1);
        due("and again", x.back(), 1);
        dues("the POT", x, SoupCourt::potOf, 9, 9, 9, 9, 9, 1, 72);
        dues("HAS", x, (c, v) -> c.of(v, 1), 0, 0, 0, 0, 0, 0, 0, 0);
        refused(State.NEW, "back() of none", STATE, SoupCourt::back);
        changesNothingButTheImage();
    }

    private static void changesNothingButTheImage() {
        SoupCourt x = court(State.MIDST);
        SoupCourt y = court(State.MIDST);
        x.image();
        dues("LED behind image()", x, SoupCourt::led, y.led(0), y.led(1), y.led(2), y.led(3), y.led(4));
        due("the POT behind image()", x.potOf(0), y.potOf(0));
        due("CHANGES behind image()", x.count(3), y.count(3));
    }
}
