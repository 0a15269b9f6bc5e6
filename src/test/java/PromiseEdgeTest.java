/** Promises 1 to 39 of the document: each sentence that names a boundary or a refusal, by a test of its own. */
public final class PromiseEdgeTest extends Edges {
    public static void main(String[] args) {
        p01newObject();
        p02house();
        p02houseRefusals();
        p03nose();
        p04things();
        p04thingsRefusals();
        p05mend();
        p06of();
        p07feed();
        p08law();
        p09taste();
        p09tasteRefusals();
        p10best();
        p11nearest();
        p11nearestRefusals();
        p12apart();
        p13jury();
        p14inHouse();
        p15lent();
        p16whoCould();
        p17fires();
        p18byTurns();
        p19drawn();
        p20fact();
        p20factRefusals();
        p21pot();
        p22minute();
        p23potOf();
        p24spoon();
        p24spoonRefusals();
        p25led();
        p26image();
        p27back();
        p28undo();
        p29redo();
        p30body();
        p31act();
        p32trace();
        p33keep();
        p34row();
        p35put();
        p36element();
        p37shift();
        p37shiftRefusals();
        p38taken();
        p39count();
        String[] promises = new String[39];
        for (int n = 1; n <= 39; n++) {
            promises[n - 1] = "Promise " + n;
        }
        end(promises);
    }

    private static int[] all(int v) {
        return new int[] {v, v, v, v, v};
    }

    // ---- houses, noses

    private static void p01newObject() {
        sentence("Promise 1", "A court, no houses.");
        SoupCourt x = new SoupCourt();
        dues("nothing is there", x, SoupCourt::count, 0, 0, 0, 0, 0, 0);
        due("no HOUSE", x.of(0, 1), BAD);
        due("no HOUSE could", x.whoCould(0), NOTHING);
        x.row(0, 0, 0);
        due("no HOUSE could", x.whoCould(0), 0);
        due("no HOUSE's POT", x.pot(0, 0), BAD);
        due("no HOUSE's FACT", x.fact(3, 0), BAD);
        due("no HOUSE's MIX", x.nearest(0, 0, -1), BAD);
        due("no HOUSE to be told", x.things(0, 0, 1), BAD);
        due("no HOUSE to be mended", x.mend(0, 1, 1), BAD);
        due("no HOUSE to be lent to", x.lent(0, 0), BAD);
    }

    private static void p02house() {
        sentence("Promise 2", "A HOUSE, its larder empty: its number.");
        SoupCourt x = new SoupCourt();
        for (int house = 0; house < 6; house++) {
            due("its number", x.house(), house);
            for (int thing = 0; thing < 8; thing++) {
                due("its larder", x.of(10 * house + thing, 1), 0);
                x.mend(10 * house + thing, 1, 9);
            }
        }
    }

    private static void p02houseRefusals() {
        sentence("Promise 2", "FULL: 6.");
        SoupCourt x = court(State.AT_ITS_ENDS);
        due("a 7th", x.house(), FULL);
        due("an 8th", x.house(), FULL);
        due("HOUSES", x.count(0), 6);
        refused(State.AT_ITS_ENDS, "house()", FULL, SoupCourt::house);
    }

    private static void p03nose() {
        sentence("Promise 3", "A NOSE: its number. BAD, FULL: 8.");
        SoupCourt x = new SoupCourt();
        for (int nose = 0; nose < 8; nose++) {
            due("BAD", x.nose(51), BAD);
            due("its number", x.nose(50), nose);
        }
        due("a 9th", x.nose(1), FULL);
        due("BAD comes first", x.nose(51), BAD);
        due("NOSES", x.count(1), 8);
        edgesOfAll("KEEN", 1, 50, SoupCourt::nose);
        refused(State.AT_ITS_ENDS, "nose()", FULL, c -> c.nose(50));
    }

    private static void p04things() {
        sentence("Promise 4", "(hn: 100 times the HOUSE, and n 1 .. 20)");
        for (int house = 0; house < 3; house++) {
            int of = 100 * house;
            edges("n of HOUSE " + house, 1, 20, (c, v) -> c.things(0, 0, of + v));
            bad("n 99 of HOUSE " + house, c -> c.things(0, 0, of + 99));
        }
        edges(State.AT_ITS_ENDS, "HOUSE", 0, 5, (c, v) -> v < 0 ? c.things(0, 0, -99) : c.things(0, 0, 100 * v + 20));
        refused(State.MIDST, "the HOUSE that comes next", BAD, c -> c.things(0, 0, 301));
        refused(State.NEW, "no HOUSE", BAD, c -> c.things(0, 0, 1));
        farOff("hn", (c, v) -> c.things(0, 0, v));
        for (int house = 0; house < 6; house++) {
            for (int n = 1; n <= 20; n += 19) {
                thingsOfOneHouse(house, n);
            }
        }
    }

    private static void p04thingsRefusals() {
        sentence("Promise 4", "BAD, -12 (no ROW of bytes; a SHELF that holds nothing is missing).");
        shelfEdges("things()", (c, v) -> c.things(v, 0, 1));
        farOff("SHELF", (c, v) -> c.things(v, 0, 1));
        refused("shorts", OTHER_KIND, c -> c.things(4, 0, 1));
        refused("shorts, at a place below 0", OTHER_KIND, c -> c.things(4, -1, 1));
        refused("a LADLE", OTHER_KIND, c -> c.things(5, 0, 1));
        refused("a LADLE, at a place far above", OTHER_KIND, c -> c.things(5, HIGH, 1));
        refused("nothing is a missing ROW", 0, c -> c.things(3, 0, 1));
        refused("a ROW of none", 0, c -> c.things(2, 0, 1));
        for (int sort = 2; sort < 5; sort++) {
            int other = sort;
            refusedBehind(c -> c.row(2, other, 2), "a ROW of sort " + sort, OTHER_KIND, c -> c.things(2, 0, 1));
        }
        refused("BAD comes first", BAD, c -> c.things(4, 0, 0));
    }

    /** SHELF 0's ROW tells 30 times that there is so much of THING 0; one HOUSE of six HAS n-th much of it then. */
    private static void thingsOfOneHouse(int house, int n) {
        SoupCourt x = new SoupCourt();
        x.row(0, 0, 60);
        for (int i = 0; i < 30; i++) {
            x.put(0, 2 * i + 1, i % 9 + 1);
        }
        for (int h = 0; h < 6; h++) {
            x.house();
        }
        due("things() of HOUSE " + house, x.things(0, 0, 100 * house + n), n);
        for (int h = 0; h < 6; h++) {
            due("HAS by HOUSE " + h + " behind " + n + " told of " + house, x.of(10 * h, 1), h == house ? (n - 1) % 9 + 1 : 0);
        }
    }

    // ---- numbers

    private static void p05mend() {
        sentence("Promise 5", "STRENGTH (what 0; number 10 times the THING, and the TASTE), HAS (1; number 10 times the HOUSE, and the THING), KEEN (2), WHICH (3) of a NOSE, FIRE (4; number 0, else BAD) becomes v: what it was. BAD.");
        int[][] least = {{0, 0, 0}, {20, 1, 0}, {1, 2, 1}, {1, 3, 0}, {0, 4, 0}};
        int[] most = {9, 9, 50, 31, 9};
        for (int[] each : least) {
            int what = each[1];
            SoupCourt x = court(State.MIDST);
            int was = x.of(each[0], what);
            due("what it was", x.mend(each[0], what, most[what]), was);
            due("the most", x.mend(each[0], what, each[2]), most[what]);
            due("the least", x.mend(each[0], what, most[what]), each[2]);
            edgesOfAll("v of " + what, each[2], most[what], (c, v) -> c.mend(each[0], what, v));
            farOff("number of " + what, (c, v) -> c.mend(v, what, most[what]));
        }
        edgesOfAll("what", 0, 4, (c, v) -> c.mend(0, v, 7));
        numbersOf((c, number, what) -> c.mend(number, what, 7));
    }

    private static void p06of() {
        sentence("Promise 6", "As of mend() (0 to 4). BAD.");
        edgesOfAll("what", 0, 4, (c, v) -> c.of(0, v));
        numbersOf(SoupCourt::of);
        for (int what = 0; what < 5; what++) {
            int of = what;
            farOff("number of " + what, (c, v) -> c.of(v, of));
            changesNothing("of()", c -> c.of(0, of));
        }
    }

    private interface Numbered {
        long on(SoupCourt x, int number, int what);
    }

    /** The bounds of the numbers that mend() and of() have in common. */
    private static void numbersOf(Numbered call) {
        for (int what = 0; what < 5; what++) {
            int of = what;
            for (int number : new int[] {-1, -4, -9, -10, -11, 80, 100}) {
                bad("number " + number + " of " + what, c -> call.on(c, number, of));
            }
        }
        edges("THING's STRENGTH", 0, 7, (c, v) -> call.on(c, 10 * v, 0));
        edges("STRENGTH's TASTE of THING 7", 0, 4, (c, v) -> v < 0 ? call.on(c, 69, 0) : call.on(c, 70 + v, 0));
        for (int taste = 5; taste < 10; taste++) {
            int none = taste;
            bad("TASTE " + taste, c -> call.on(c, none, 0));
        }
        edges(State.AT_ITS_ENDS, "HOUSE", 0, 5, (c, v) -> call.on(c, 10 * v, 1));
        refused(State.MIDST, "the HOUSE that comes next", BAD, c -> call.on(c, 30, 1));
        refused(State.NEW, "no HOUSE", BAD, c -> call.on(c, 0, 1));
        edges("THING of HOUSE 2", 0, 7, (c, v) -> call.on(c, 20 + v, 1));
        bad("THING 9", c -> call.on(c, 9, 1));
        for (int what = 2; what <= 3; what++) {
            int of = what;
            edges(State.AT_ITS_ENDS, "NOSE by " + what, 0, 7, (c, v) -> call.on(c, v, of));
            refused(State.MIDST, "the NOSE that comes next", BAD, c -> call.on(c, 2, of));
            refused(State.NEW, "no NOSE", BAD, c -> call.on(c, 0, of));
        }
        edges("FIRE's number", 0, 0, (c, v) -> call.on(c, v, 4));
    }

    // ---- THE TAPE

    private static void p07feed() {
        sentence("Promise 7", "A byte (0 .. 255) comes to THE TAPE: how many it has. BAD, FULL (120).");
        edgesOfAll("byte", 0, 255, SoupCourt::feed);
        SoupCourt x = new SoupCourt();
        for (int n = 1; n <= 120; n++) {
            due("BAD", x.feed(256), BAD);
            due("how many it has", x.feed(n == 120 ? 255 : 's'), n);
        }
        due("a 121st", x.feed(0), FULL);
        due("BAD comes first", x.feed(-1), BAD);
        due("how many it has", x.count(2), 120);
        refused(State.AT_ITS_ENDS, "feed()", FULL, c -> c.feed('s'));
    }

    private static void p08law() {
        sentence("Promise 8", "THE TAPE becomes THE LAW: 1; -100 less its FAULT; THE TAPE is empty then.");
        SoupCourt x = new SoupCourt();
        due("a FAULT at 1", lawOf(x, "ss"), -101);
        due("THE TAPE is empty then", x.count(2), 0);
        due("an empty TAPE has its FAULT at 0", x.law(), -100);
        x.row(0, 0, 0);
        due("no LAW yet", x.taste(0, 1, 0), 0);
        due("a text", lawOf(x, "7"), 1);
        due("THE TAPE is empty then", x.count(2), 0);
        due("THE LAW", x.taste(0, 1, 0), 7);
        due("no TEXT", lawOf(x, "9+"), -102);
        due("THE TAPE is empty then", x.count(2), 0);
        due("THE LAW is as it was", x.taste(0, 1, 0), 7);
        due("an empty TAPE", x.law(), -100);
        due("THE LAW is as it was", x.taste(0, 1, 0), 7);
        due("the last place", lawOf(x, times(59, "7-") + "7q"), -219);
        due("behind the last place", lawOf(x, times(60, "7-")), -220);
        due("a full TAPE", lawOf(x, times(59, "0+") + "11"), 1);
        due("THE LAW", x.taste(0, 1, 0), 11);
        x.feed('9');
        due("a new TAPE begins empty", x.law(), 1);
        due("THE LAW", x.taste(0, 1, 0), 9);
        nothingStaysOfAnOlderLaw();
    }

    private static void nothingStaysOfAnOlderLaw() {
        String[] older = {"0?1;0?2;3;4", "!!!!!!7", "-(-(-7))", "1?2?", "5-4-3-2-1+((((((0))))))", "7/0%0*0", "1;2;3;4;5;6"};
        for (String old : older) {
            for (String text : new String[] {"8", "0?1;8", "9-1", "1?8", "2*(3+1)", "!!4*8"}) {
                SoupCourt x = new SoupCourt();
                x.row(0, 0, 0);
                lawOf(x, old);
                due(text + " behind " + old, lawOf(x, text), 1);
                due(text + " behind " + old + " gives", x.taste(0, 1, 0), 8);
            }
        }
    }

    // ---- pots in thought

    private static void p09taste() {
        sentence("Promise 9", "A TASTE (0 .. 4; 5 all together) behind n minutes.");
        edgesOfAll("TASTE", 0, 5, (c, v) -> c.taste(0, 1, v));
        edgesOfAll("n", 0, 60, (c, v) -> c.taste(0, v, 5));
    }

    private static void p09tasteRefusals() {
        sentence("Promise 9", "BAD, -11, -12 (no ROW of bytes).");
        rowOfBytesEdges("taste()", (c, v) -> c.taste(v, 60, 5));
        refused("BAD by n comes first", BAD, c -> c.taste(3, 61, 0));
        refused("BAD by TASTE comes first", BAD, c -> c.taste(4, 0, 6));
    }

    private static void p10best() {
        sentence("Promise 10", "BEST: which (what 0), how FAR (1). BAD, -11, -12 (no ROW of bytes).");
        edgesOfAll("what", 0, 1, (c, v) -> c.best(1, v));
        rowOfBytesEdges("best() by the MIX", (c, v) -> c.best(10 * v + 1, 1));
        rowOfBytesEdges("best() by the soup", (c, v) -> c.best(10 + v, 1));
        refused("BAD by what comes first", BAD, c -> c.best(34, 2));
        refused("BAD by what comes first", BAD, c -> c.best(43, -1));
    }

    private static void p11nearest() {
        sentence("Promise 11", "how FAR (k -1), how much of THING k (0 .. 3).");
        edgesOfAll("k", -1, 3, (c, v) -> c.nearest(1, 0, v));
        hnEdges("nearest()", (c, v) -> c.nearest(1, v, 0));
        SoupCourt x = sixHouses();
        bytes(x, 0, 0, 0, 0, 0, 9, 9, 9, 9);
        bytes(x, 1, all(20));
        for (int house = 0; house < 6; house++) {
            int[] most = {0, 1, 2, 2 + 1, 2 + 2, 2 + 2 + 1};
            due("a MIX of THINGS that nearest() leaves out", x.taste(0, 1, 0), 20);
            due("behind a minute, HOUSE " + house, x.nearest(1, 100 * house + 1, -1), 5 * (20 - most[house]));
            due("how much of THING 1, HOUSE " + house, x.nearest(1, 100 * house + 1, 1), Math.max(0, Math.min(2, house - 2)));
            due("behind two minutes, HOUSE " + house, x.nearest(1, 100 * house + 2, -1), 5 * (20 - 2 * most[house]));
        }
    }

    private static void p11nearestRefusals() {
        sentence("Promise 11", "BAD, -11, -12 (no ROW of bytes).");
        rowOfBytesEdges("nearest()", (c, v) -> c.nearest(v, 210, 0));
        soupEdges("nearest()", c -> c.nearest(2, 210, 0));
        refused("BAD by n comes first", BAD, c -> c.nearest(3, 11, 0));
        refused("BAD by k comes first", BAD, c -> c.nearest(4, 0, 4));
    }

    /** 100 times the HOUSE, and n 0 .. 10. */
    private static void hnEdges(String what, Of call) {
        for (int house = 0; house < 3; house++) {
            int of = 100 * house;
            edges(what + ": n of HOUSE " + house, 0, 10, (c, v) -> v < 0 ? call.on(c, -1) : call.on(c, of + v));
            bad(what + ": n 99 of HOUSE " + house, c -> call.on(c, of + 99));
        }
        edges(State.AT_ITS_ENDS, what + ": HOUSE", 0, 5, (c, v) -> call.on(c, 100 * v));
        refused(State.MIDST, what + ": the HOUSE that comes next", BAD, c -> call.on(c, 300));
        refused(State.NEW, what + ": no HOUSE", BAD, c -> call.on(c, 0));
        farOff(what + ": hn", call);
    }

    /** Six HOUSES, each HAS one more of a THING than the one ahead, 9 of THING 7; a minute gives as much as is in. */
    private static SoupCourt sixHouses() {
        SoupCourt x = withLaw("w");
        for (int house = 0; house < 6; house++) {
            x.house();
            for (int thing = 0; thing < 4; thing++) {
                x.mend(10 * house + thing, 1, Math.max(0, Math.min(3, house - 2 * thing)));
            }
            x.mend(10 * house + 7, 1, 9);
        }
        return x;
    }

    private static void p12apart() {
        sentence("Promise 12", "BAD: ss, nose; -11, -12 (no ROW of bytes) of the one, then of the other; BAD: the one, then the other has not five such bytes.");
        edges(State.AT_ITS_ENDS, "nose", 0, 7, (c, v) -> c.apart(11, v));
        refused(State.MIDST, "the NOSE that comes next", BAD, c -> c.apart(11, 2));
        refused(State.NEW, "no NOSE", BAD, c -> c.apart(11, 0));
        farOff("nose", (c, v) -> c.apart(11, v));
        farOff("ss", (c, v) -> c.apart(v, 0));
        for (int ss : new int[] {-1, -10, -11, 6, 9, 16, 56, 60, 65, 66, 100}) {
            bad("ss " + ss, c -> c.apart(ss, 0));
        }
        SoupCourt x = court(State.MIDST);
        bytes(x, 5, 0, 0, 0, 0, 99);
        bytes(x, 0, 0, 0, 0, 0, 99);
        due("ss 55", x.apart(55, 0), 0);
        due("ss 5", x.apart(5, 0), 0);
        due("ss 50", x.apart(50, 0), 0);
        refused("ss comes first", BAD, c -> c.apart(63, 0));
        refused("nose comes first", BAD, c -> c.apart(33, 8));
        refused("nothing, then another kind", NOTHING, c -> c.apart(34, 0));
        refused("another kind, then nothing", OTHER_KIND, c -> c.apart(43, 0));
        refused("a LADLE, then nothing", OTHER_KIND, c -> c.apart(53, 0));
        refused("no five bytes, then nothing", NOTHING, c -> c.apart(23, 0));
        refused("no five bytes, then another kind", OTHER_KIND, c -> c.apart(24, 0));
        refused("nothing, then no five bytes", NOTHING, c -> c.apart(32, 0));
        refused("another kind, then no five bytes", OTHER_KIND, c -> c.apart(42, 0));
        refused("no five bytes of both", BAD, c -> c.apart(22, 0));
        rowOfBytesEdges("apart() by the one", (c, v) -> c.apart(10 * v + 1, 0));
        rowOfBytesEdges("apart() by the other", (c, v) -> c.apart(10 + v, 0));
        soupEdges("apart() by the one", c -> c.apart(21, 0));
        soupEdges("apart() by the other", c -> c.apart(12, 0));
    }

    private static void p13jury() {
        sentence("Promise 13", "JURY: how many (what 0), which (1). BAD, -11, -12 (no ROW of bytes); NOT.");
        edgesOfAll("what", 0, 1, (c, v) -> c.jury(2, v));
        rowOfBytesEdges("jury()", (c, v) -> c.jury(v, 0));
        refused("BAD by what comes first", BAD, c -> c.jury(3, 2));
        refusedBehind(c -> c.row(2, 0, 10), "two soups that are alike: how many", NOT, c -> c.jury(2, 0));
        refusedBehind(c -> c.row(2, 0, 10), "two soups that are alike: which", NOT, c -> c.jury(2, 1));
        SoupCourt x = court(State.MIDST);
        x.row(2, 0, 9);
        dues("one soup and a part: how many, which", x, (c, v) -> c.jury(2, v), 0, 0);
    }

    // ---- in the house

    private static void p14inHouse() {
        sentence("Promise 14", "IN THE HOUSE (hn as of nearest()): how many (what 0), the least (1; NOT), the least of a THING (10 and the THING 0 .. 3; NOT), the most (20 and the THING; NOT).");
        hnEdges("inHouse()", (c, v) -> c.inHouse(1, v, 0));
        for (int what : new int[] {-1, 2, 9, 14, 19, 24, 30, 110, LOW, HIGH}) {
            bad("what " + what, c -> c.inHouse(1, 0, what));
        }
        SoupCourt x = court(State.MIDST);
        bytes(x, 2, all(0));
        for (int what : new int[] {0, 1, 10, 11, 12, 13, 20, 21, 22, 23}) {
            due("what " + what + " is taken", x.inHouse(2, 0, what) >= 0 ? 1 : 0, 1);
            if (what > 0) {
                refused(State.MIDST, "what " + what + " of none", NOT, c -> c.inHouse(1, 0, what));
            }
        }
        refused(State.MIDST, "how many of none", 0, c -> c.inHouse(1, 0, 0));
        SoupCourt y = sixHouses();
        bytes(y, 0, 0, 0, 0, 0, 9, 9, 9, 9);
        for (int house = 0; house < 6; house++) {
            int[] most = {0, 1, 2, 3 + 1, 3 + 2, 3 + 3 + 1};
            bytes(y, 1, all(most[house]));
            due("a MIX of THINGS that inHouse() leaves out", y.taste(0, 1, 0), 20);
            due("all that HOUSE " + house + " HAS", y.inHouse(1, 100 * house + 1, 0), 1);
            due("of THING 0", y.inHouse(1, 100 * house + 1, 10), Math.min(3, house));
            bytes(y, 1, all(most[house] + 1));
            due("one more than HOUSE " + house + " HAS", y.inHouse(1, 100 * house + 1, 0), 0);
        }
        rowOfBytesEdges("inHouse()", (c, v) -> c.inHouse(v, 0, 0));
        farOff("SHELF", (c, v) -> c.inHouse(v, 0, 0));
        soupEdges("inHouse()", c -> c.inHouse(2, 0, 0));
        refused("BAD by n comes first", BAD, c -> c.inHouse(3, 11, 0));
        refused("BAD by what comes first", BAD, c -> c.inHouse(4, 0, 2));
    }

    private static void p15lent() {
        sentence("Promise 15", "LENT: how many. NOT.");
        rowOfBytesEdges("lent()", (c, v) -> c.lent(v, 0));
        farOff("SHELF", (c, v) -> c.lent(v, 0));
        houseEdges("lent()", (c, v) -> c.lent(2, v));
        refused("BAD comes first", BAD, c -> c.lent(3, 6));
        refused(State.AT_ITS_ENDS, "lent() of 9 each, which no others HAVE", NOT, c -> c.lent(0, 1));
    }

    private static void p16whoCould() {
        sentence("Promise 16", "WHO COULD: bits.");
        rowOfBytesEdges("whoCould()", (c, v) -> c.whoCould(v));
        farOff("SHELF", SoupCourt::whoCould);
        due("each of six HAS nothing", court(State.AT_ITS_ENDS).whoCould(2), 63);
        due("none HAS 9 each", court(State.AT_ITS_ENDS).whoCould(0), 0);
    }

    private static void houseEdges(String what, Of call) {
        edges(State.AT_ITS_ENDS, what + ": HOUSE", 0, 5, call);
        refused(State.MIDST, what + ": the HOUSE that comes next", BAD, c -> call.on(c, 3));
        refused(State.NEW, what + ": no HOUSE", BAD, c -> call.on(c, 0));
        farOff(what + ": HOUSE", call);
    }

    private static void p17fires() {
        sentence("Promise 17", "FIRES: the least time (j -1), the fire of the j-th (NOT: there are not as many).");
        rowOfBytesEdges("fires()", (c, v) -> c.fires(v, 1, -1));
        farOff("SHELF", (c, v) -> c.fires(v, 1, -1));
        edgesOfAll("k", 1, 3, (c, v) -> c.fires(0, v, -1));
        bad("j -2", c -> c.fires(0, 1, -2));
        bad("j far below", c -> c.fires(0, 1, LOW));
        // SHELF 0's ROW begins 2 1 0 in the midst, 9 nines at its ends
        dues("two pots", court(State.MIDST), (c, v) -> c.fires(0, 2, v - 1), 2, 0, 1, NOT, NOT);
        dues("eight pots", court(State.AT_ITS_ENDS), (c, v) -> c.fires(0, 3, v - 1), 27, 0, 0, 0, 1, 1, 1, 2, 2, NOT, NOT);
        refused(State.MIDST, "a third of two", NOT, c -> c.fires(0, 1, 2));
        refused(State.AT_ITS_ENDS, "a ninth of eight", NOT, c -> c.fires(0, 1, 8));
        refused("far more than there are", NOT, c -> c.fires(0, 1, HIGH));
        refused("the first of none", NOT, c -> c.fires(2, 1, 0));
        refused("BAD by k comes first", BAD, c -> c.fires(2, 4, 0));
        refused("BAD by j comes first", BAD, c -> c.fires(3, 1, -2));
    }

    private static void p18byTurns() {
        sentence("Promise 18", "BY TURNS: how FAR (what 0), the first one's first (1).");
        edgesOfAll("what", 0, 1, (c, v) -> c.byTurns(1, 1, v));
        edgesOfAll("n", 1, 3, (c, v) -> c.byTurns(1, v, 1));
        rowOfBytesEdges("byTurns() by the MIX", (c, v) -> c.byTurns(10 * v + 1, 1, 0));
        rowOfBytesEdges("byTurns() by the soup", (c, v) -> c.byTurns(10 + v, 1, 0));
        farOff("ms", (c, v) -> c.byTurns(v, 1, 0));
        for (int ms : new int[] {-1, -10, 6, 16, 56, 60, 66, 100}) {
            bad("ms " + ms, c -> c.byTurns(ms, 1, 0));
        }
        soupEdges("byTurns()", c -> c.byTurns(2, 3, 0));
        refused("BAD by n comes first", BAD, c -> c.byTurns(34, 4, 0));
        refused("BAD by what comes first", BAD, c -> c.byTurns(43, 1, 2));
        refused("the MIX first, nothing", NOTHING, c -> c.byTurns(34, 1, 0));
        refused("the MIX first, another kind", OTHER_KIND, c -> c.byTurns(43, 1, 0));
        refused("the MIX first, then the soup that is none", NOTHING, c -> c.byTurns(32, 1, 0));
    }

    private static void p19drawn() {
        sentence("Promise 19", "DRAWN (nm: 100 n and m; the MIX on a SHELF): a TASTE, all (5).");
        edges("n", 1, 30, (c, v) -> c.drawn(0, 100 * v + 1, 0, 5));
        edges("m", 1, 40, (c, v) -> c.drawn(0, 2900 + v, 0, 5));
        farOff("nm", (c, v) -> c.drawn(0, v, 0, 5));
        for (int nm : new int[] {0, 1, 40, 99, 100, 3000, 3041, 3100, 3101, -1, -100, -101, -3040}) {
            bad("nm " + nm, c -> c.drawn(0, nm, 0, 5));
        }
        edgesOfAll("TASTE", 0, 5, (c, v) -> c.drawn(0, 3040, 0, v));
        rowOfBytesEdges("drawn()", (c, v) -> c.drawn(0, 101, v, 0));
        farOff("SHELF", (c, v) -> c.drawn(0, 101, v, 0));
        for (int seed : new int[] {LOW, -1, 0, HIGH}) {
            taken(State.MIDST, "SEED " + seed, c -> c.drawn(seed, 101, 0, 0));
        }
        refused("BAD by m comes first", BAD, c -> c.drawn(0, 141, 3, 0));
        refused("BAD by TASTE comes first", BAD, c -> c.drawn(0, 101, 4, 6));
    }

    // ---- in deed

    private static void p20fact() {
        sentence("Promise 20", "A FACT (0 .. 3; ht: 100 times the HOUSE, 10 times the THING, and, if it is lent, the other HOUSE, else 0): how much the HOUSE HAS then.");
        edgesOfAll("FACT", 0, 3, (c, v) -> c.fact(v, v == 2 ? 2 : 0));
        edges(State.AT_ITS_ENDS, "HOUSE", 0, 5, (c, v) -> c.fact(3, 100 * v + 10));
        edges("THING", 0, 7, (c, v) -> c.fact(3, 200 + 10 * v));
        edges(State.AT_ITS_ENDS, "the other HOUSE", 0, 4, (c, v) -> c.fact(2, 570 + v));
        for (int kind = 0; kind < 4; kind++) {
            int of = kind;
            farOff("ht of FACT " + kind, (c, v) -> c.fact(of, v));
            bad("THING 9 of FACT " + kind, c -> c.fact(of, of == 2 ? 91 : 90));
            bad("ht -1 of FACT " + kind, c -> c.fact(of, -1));
            refused(State.MIDST, "the HOUSE that comes next, FACT " + kind, BAD, c -> c.fact(of, of == 2 ? 301 : 300));
            refused(State.NEW, "no HOUSE, FACT " + kind, BAD, c -> c.fact(of, of == 2 ? 1 : 0));
            for (int other = 1; other < 10 && kind != 2; other++) {
                int digit = other;
                bad("another HOUSE " + other + " by FACT " + kind, c -> c.fact(of, digit));
            }
        }
        refused(State.MIDST, "lent to the HOUSE that comes next", BAD, c -> c.fact(2, 3));
        refused(State.AT_ITS_ENDS, "lent to HOUSE 9", BAD, c -> c.fact(2, 579));
        refused(State.AT_ITS_ENDS, "lent to itself", BAD, c -> c.fact(2, 575));
    }

    private static void p20factRefusals() {
        sentence("Promise 20", "BAD; STATE: it HAS none (0, 1, 2), or 9 (of the other one, if it is lent).");
        for (int kind = 0; kind < 3; kind++) {
            int of = kind;
            refused(State.MIDST, "FACT " + kind + " of none", STATE, c -> c.fact(of, of == 2 ? 71 : 70));
            refused(State.AT_ITS_ENDS, "FACT " + kind + " of none", STATE, c -> c.fact(of, of == 2 ? 1 : 0));
        }
        refused(State.MIDST, "lent to one that HAS 9", STATE, c -> c.fact(2, 1));
        refused(State.MIDST, "bought by one that HAS 9", STATE, c -> c.fact(3, 100));
        refused(State.AT_ITS_ENDS, "lent of none to one that HAS 9", STATE, c -> c.fact(2, 75));
        SoupCourt x = court(State.MIDST);
        due("lent by one that HAS 9", x.fact(2, 102), 8);
        due("and then to it", x.fact(2, 1), 2);
        due("it HAS 9 again", x.of(10, 1), 9);
        due("the last one lent", x.fact(2, 250), 0);
        due("none is left", x.fact(2, 250), STATE);
    }

    private static void p21pot() {
        sentence("Promise 21", "A POT is put on from a HOUSE by a MIX: how much is in. BAD, -11, -12; STATE: it HAS not so much.");
        rowOfBytesEdges("pot()", (c, v) -> c.pot(v, 0));
        farOff("SHELF", (c, v) -> c.pot(v, 0));
        houseEdges("pot()", (c, v) -> c.pot(2, v));
        refused("BAD comes first", BAD, c -> c.pot(3, 6));
        refused(State.AT_ITS_ENDS, "9 each of a HOUSE that HAS none", STATE, c -> c.pot(0, 0));
        refused(State.MIDST, "2 of THING 0, 1 of THING 1 of HOUSE 2", STATE, c -> c.pot(0, 2));
        for (int thing = 0; thing < 8; thing++) {
            int more = thing;
            refusedBehind(c -> bytes(c, 2, 0, 0, 0, 0, 0, 0, 0, 0) + c.put(2, more, c.of(more, 1) + 1), "one more of " + thing + " than it HAS", STATE, c -> c.pot(2, 0));
        }
        SoupCourt x = court(State.MIDST);
        bytes(x, 2, 3, 2, 2, 2);
        due("all that it HAS", x.pot(2, 0), 9);
        dues("it HAS none then", x, (c, v) -> c.of(v, 1), 0, 0, 0, 0, 0, 0, 0, 0);
        x.row(2, 0, 0);
        due("nothing of one that HAS none", x.pot(2, 0), 0);
    }

    private static void p22minute() {
        sentence("Promise 22", "A MINUTE passes: MINUTES of the POT. STATE: there is none.");
        refused(State.NEW, "minute()", STATE, SoupCourt::minute);
        SoupCourt y = court(State.AT_ITS_ENDS);
        for (int m = 3; m <= 102; m++) {
            due("MINUTES", y.minute(), Math.min(99, m));
        }
        due("a new POT", y.pot(2, 0), 0);
        due("its first MINUTE", y.minute(), 1);
    }

    private static void p23potOf() {
        sentence("Promise 23", "A TASTE of the POT (0 .. 4; 5 MINUTES, 6 how much is in). BAD; STATE: there is none.");
        bad("-1", c -> c.potOf(-1));
        bad("7", c -> c.potOf(7));
        farOff("TASTE", SoupCourt::potOf);
        for (int v = 0; v <= 6; v++) {
            int taste = v;
            refused(State.NEW, "potOf() " + v, STATE, c -> c.potOf(taste));
            changesNothing("potOf() " + v, c -> c.potOf(taste));
        }
        dues("two MINUTES of 9, 72 in", court(State.AT_ITS_ENDS), SoupCourt::potOf, 18, 18, 18, 18, 18, 2, 72, BAD);
    }

    private static void p24spoon() {
        sentence("Promise 24", "A NOSE TASTES it: 1: it tells it from a told soup, 0.");
        SoupCourt x = court(State.AT_ITS_ENDS);
        due("KEEN 1, by 0 apart", x.row(1, 0, 5) + x.spoon(1, 7), 1);
        for (int taste = 0; taste < 5; taste++) {
            bytes(x, 1, all(18));
            due("as it is", x.spoon(1, 0), 0);
            x.put(1, taste, 17);
            due("one apart, KEEN 1", x.spoon(1, 0), 1);
            due("one apart, KEEN 2", x.spoon(1, 1), 0);
            x.put(1, taste, 20);
            due("two apart, KEEN 2", x.spoon(1, 1), 1);
            due("two apart, KEEN 3", x.spoon(1, 2), 0);
        }
        due("tasted", x.led(3), 1 + 25);
        due("told apart", x.led(4), 10);
    }

    private static void p24spoonRefusals() {
        sentence("Promise 24", "BAD, -11, -12; STATE: there is none.");
        edges(State.AT_ITS_ENDS, "NOSE", 0, 7, (c, v) -> c.spoon(1, v));
        refused(State.MIDST, "the NOSE that comes next", BAD, c -> c.spoon(1, 2));
        farOff("NOSE", (c, v) -> c.spoon(1, v));
        rowOfBytesEdges("spoon()", (c, v) -> c.spoon(v, 0));
        farOff("SHELF", (c, v) -> c.spoon(v, 0));
        soupEdges("spoon()", c -> c.spoon(2, 0));
        Call noPot = c -> c.nose(1) + c.body(0) + bytes(c, 0, 1, 2, 3, 4, 5) + c.row(1, 0, 4) + c.row(4, 1, 5) + c.keep(5, 0);
        refusedBehind(State.NEW, noPot, "there is no POT", STATE, c -> c.spoon(0, 0));
        refusedBehind(State.NEW, noPot, "no POT, no NOSE", BAD, c -> c.spoon(0, 1));
        refusedBehind(State.NEW, noPot, "no POT, nothing on the SHELF", NOTHING, c -> c.spoon(3, 0));
        refusedBehind(State.NEW, noPot, "no POT, shorts", OTHER_KIND, c -> c.spoon(4, 0));
        refusedBehind(State.NEW, noPot, "no POT, a LADLE", OTHER_KIND, c -> c.spoon(5, 0));
        refusedBehind(State.NEW, noPot, "no POT, no soup", BAD, c -> c.spoon(1, 0));
    }

    private static void p25led() {
        sentence("Promise 25", "LED: facts (what 0), pots (1), minutes (2), tasted (3), told apart (4). BAD.");
        edgesOfAll("what", 0, 4, SoupCourt::led);
        dues("at first", court(State.NEW), SoupCourt::led, 0, 0, 0, 0, 0, BAD);
        // one bought, one eaten; a POT of three MINUTES; two NOSES tasted it, the one of KEEN 1 told it apart
        dues("in the midst", court(State.MIDST), SoupCourt::led, 2, 1, 3, 2, 1, BAD);
        changesNothing("led()", c -> c.led(4));
    }

    private static void p26image() {
        sentence("Promise 26", "AN IMAGE is kept: minutes.");
        SoupCourt x = new SoupCourt();
        due("at first", x.image(), 0);
        x.house();
        x.row(0, 0, 0);
        for (int pot = 0; pot < 2; pot++) {
            x.pot(0, 0);
            x.minute();
            x.minute();
            due("minutes that LED tells", x.image(), 2 * pot + 2);
        }
        due("the later one is kept", x.back(), 4);
        for (int m = 0; m < 105; m++) {
            x.minute();
        }
        due("they don't end at 99", x.image(), 109);
        due("nor when it is laid back", x.back(), 109);
        due("MINUTES do", x.potOf(5), 99);
    }

    private static void p27back() {
        sentence("Promise 27", "It is laid back (HOUSES that came since as they are): minutes. STATE: there is none.");
        refused(State.NEW, "back()", STATE, SoupCourt::back);
        for (int kept = 0; kept < 6; kept++) {
            SoupCourt y = new SoupCourt();
            for (int house = 0; house < 6; house++) {
                due("before the image", house == kept ? y.image() : 0, 0);
                y.house();
                y.mend(10 * house + 7, 1, house + 1);
            }
            for (int house = 0; house < 6; house++) {
                y.fact(1, 100 * house + 70);
                y.fact(3, 100 * house);
            }
            due("laid back", y.back(), 0);
            due("all HOUSES are there", y.count(0), 6);
            for (int house = 0; house < 6; house++) {
                due("HAS by HOUSE " + house + " of " + kept, y.of(10 * house + 7, 1), house < kept ? house + 1 : 0);
                due("HAS by HOUSE " + house + " of " + kept, y.of(10 * house, 1), house < kept ? 0 : 1);
            }
            due("no facts", y.led(0), 0);
        }
    }

    private static void p28undo() {
        sentence("Promise 28", "UNDONE: how many may still be. STATE: none.");
        refused(State.NEW, "undo()", STATE, SoupCourt::undo);
        refusedBehind(c -> undone(c, 15), "undo() of none more", STATE, SoupCourt::undo);
        SoupCourt x = court(State.AT_ITS_ENDS);
        undone(x, 40);
        due("none more of 40", x.undo(), STATE);
        due("none may be UNDONE", x.count(3), 0);
    }

    private static void p29redo() {
        sentence("Promise 29", "DONE AGAIN: how many may still be. STATE: none.");
        refused(State.NEW, "redo()", STATE, SoupCourt::redo);
        refused(State.AT_ITS_ENDS, "redo() of none undone", STATE, SoupCourt::redo);
        SoupCourt x = court(State.AT_ITS_ENDS);
        undone(x, 40);
        for (int left = 39; left >= 0; left--) {
            due("DONE AGAIN", x.redo(), left);
        }
        due("none more of 40", x.redo(), STATE);
        dues("two in the midst", court(State.MIDST), (c, v) -> c.redo(), 1, 0, STATE, STATE);
        refusedBehind(State.MIDST, c -> c.mend(74, 0, 9), "redo() behind another CHANGE", STATE, SoupCourt::redo);
    }

    private static long undone(SoupCourt x, int many) {
        for (int left = many - 1; left >= 0; left--) {
            due("UNDONE", x.undo(), left);
        }
        return 0;
    }

    // ---- acts

    private static void p30body() {
        sentence("Promise 30", "A LADLE of a KIND (0 .. 7) is kept: its number. BAD, FULL.");
        edgesOfAll("KIND", 0, 7, SoupCourt::body);
        SoupCourt x = new SoupCourt();
        for (int n = 0; n < 50; n++) {
            due("BAD", x.body(8), BAD);
            due("its number", x.body(7), n);
        }
        due("a 51st", x.body(0), FULL);
        due("BAD comes first", x.body(-1), BAD);
        due("BODIES", x.count(4), 50);
        refused(State.AT_ITS_ENDS, "body()", FULL, c -> c.body(0));
    }

    private static void p31act() {
        sentence("Promise 31", "An ACT (0 .. 3) of a LADLE with x. 0, and no TRACE then: no such LADLE, ACT.");
        int[][] none = {{-1, 0}, {3, 0}, {LOW, 0}, {HIGH, 0}, {50, 0}, {0, -1}, {0, 4}, {0, LOW}, {0, HIGH}, {-1, -1}, {3, 4}, {HIGH, LOW}};
        for (int[] each : none) {
            SoupCourt y = court(State.MIDST);
            due("a TRACE", y.trace(0), 2);
            due("LADLE " + each[0] + ", ACT " + each[1], y.act(each[0], each[1], 7), 0);
            due("no TRACE then", y.trace(0), BAD);
            due("none ran", y.count(5), 0);
            // but for THE TRACE nothing changes
            refusedBehind(c -> c.act(-1, 0, 0), "LADLE " + each[0] + ", ACT " + each[1], 0, c -> c.act(each[0], each[1], 7));
        }
        refusedBehind(State.AT_ITS_ENDS, c -> c.act(-1, 0, 0), "LADLE 50", 0, c -> c.act(50, 0, 7));
        refused(State.NEW, "no LADLE yet", 0, c -> c.act(0, 0, 7));
        SoupCourt y = court(State.AT_ITS_ENDS);
        // LADLE 49 is of KIND 0, LADLE 0 of KIND 7
        dues("LADLE 49", y, (c, v) -> c.act(49, v, 7), 56, 112, 7 ^ 49, 112 - (1 ^ 49), 0);
        dues("LADLE 0", y, (c, v) -> c.act(0, v, 7), 10, 20 + (2 - 5), 7 - 5, 20 + (2 - 5) - (1 - 5) - 1, 0);
    }

    private static void p32trace() {
        sentence("Promise 32", "THE TRACE's i-th body. BAD.");
        edgesOfAll("i", 0, 3, SoupCourt::trace);
        refused(State.NEW, "no TRACE", BAD, c -> c.trace(0));
        dues("the four that ran", court(State.MIDST), SoupCourt::trace, 2, 10, 1, 11, BAD);
        for (int i : new int[] {14, 15, 23, 24, 25}) {
            bad("i " + i, c -> c.trace(i));
        }
        changesNothing("trace()", c -> c.trace(3));
    }

    private static void p33keep() {
        sentence("Promise 33", "A SHELF holds nothing (body -1), or a LADLE: 1. BAD.");
        shelfEdges("keep()", (c, v) -> c.keep(v, -1));
        shelfEdges("keep()", (c, v) -> c.keep(v, 0));
        farOff("SHELF", (c, v) -> c.keep(v, -1));
        edges(State.AT_ITS_ENDS, "body", -1, 49, (c, v) -> c.keep(0, v));
        refused(State.MIDST, "the BODY that comes next", BAD, c -> c.keep(0, 3));
        refused(State.NEW, "no BODY", BAD, c -> c.keep(0, 0));
        farOff("body", (c, v) -> c.keep(0, v));
        due("nothing in place of nothing", court(State.NEW).keep(0, -1), 1);
    }

    // ---- SHELVES

    private static void p34row() {
        sentence("Promise 34", "A SHELF holds a ROW: 1. BAD (sort, n above 60); -14.");
        shelfEdges("row()", (c, v) -> c.row(v, 4, 60));
        farOff("SHELF", (c, v) -> c.row(v, 0, 1));
        edgesOfAll("sort", 0, 4, (c, v) -> c.row(0, v, 0));
        for (int sort = 0; sort < 5; sort++) {
            int of = sort;
            taken(State.MIDST, "n 0 of sort " + sort, c -> c.row(0, of, 0));
            taken(State.MIDST, "n 60 of sort " + sort, c -> c.row(0, of, 60));
            bad("n 61 of sort " + sort, c -> c.row(0, of, 61));
            bad("n far above of sort " + sort, c -> c.row(0, of, HIGH));
            for (State state : State.values()) {
                refused(state, "n -1 of sort " + sort, SIZE, c -> c.row(0, of, -1));
                refused(state, "n far below of sort " + sort, SIZE, c -> c.row(5, of, LOW));
            }
        }
        bad("sort comes first", c -> c.row(0, 5, -1));
        bad("SHELF comes first", c -> c.row(6, 0, -1));
    }

    private static void p35put() {
        sentence("Promise 35", "Element i of a ROW becomes v: 1. BAD, -11, -12, -13.");
        shelfEdges("put()", (c, v) -> c.put(v, 0, 7));
        farOff("SHELF", (c, v) -> c.put(v, 0, 7));
        rowPlaces((c, i) -> c.put(0, i, 7));
        refused("of nothing", NOTHING, c -> c.put(3, 0, 7));
        refused("of nothing, at no place", NOTHING, c -> c.put(3, -1, 7));
        refused("of a LADLE", OTHER_KIND, c -> c.put(5, 0, 7));
        refused("of a LADLE, at no place", OTHER_KIND, c -> c.put(5, 60, 7));
        refused("of a ROW of none", NO_PLACE, c -> c.put(2, 0, 7));
        for (long v : new long[] {0, -1, Long.MIN_VALUE, Long.MAX_VALUE}) {
            taken(State.MIDST, "v " + v, c -> c.put(0, 0, v));
        }
    }

    private static void p36element() {
        sentence("Promise 36", "Element i of a ROW; Long.MIN_VALUE: BAD, -11 to -13.");
        rowPlaces((c, i) -> c.element(0, i) == Long.MIN_VALUE ? NO_PLACE : c.element(0, i));
        for (int shelf : new int[] {-1, 6, LOW, HIGH, 2, 3, 5}) {
            refused("SHELF " + shelf, Long.MIN_VALUE, c -> c.element(shelf, 0));
        }
        for (int i : new int[] {-1, 60, LOW, HIGH}) {
            refused("place " + i, Long.MIN_VALUE, c -> c.element(0, i));
            refused(State.NEW, "place " + i + " of nothing", Long.MIN_VALUE, c -> c.element(0, i));
        }
        SoupCourt x = new SoupCourt();
        x.row(0, 3, 1);
        x.put(0, 0, Long.MIN_VALUE);
        due("a long that is the least", x.element(0, 0), Long.MIN_VALUE);
        x.put(0, 0, Long.MIN_VALUE + 1);
        due("one more", x.element(0, 0), Long.MIN_VALUE + 1);
    }

    /** SHELF 0's ROW has 6 bytes in the midst, 60 at the court's ends. */
    private static void rowPlaces(Of call) {
        taken(State.MIDST, "place 0", c -> call.on(c, 0));
        taken(State.MIDST, "place 5 of 6", c -> call.on(c, 5));
        taken(State.AT_ITS_ENDS, "place 59 of 60", c -> call.on(c, 59));
        refused(State.MIDST, "place 6 of 6", NO_PLACE, c -> call.on(c, 6));
        refused(State.MIDST, "place 59 of 6", NO_PLACE, c -> call.on(c, 59));
        refused(State.AT_ITS_ENDS, "place 60 of 60", NO_PLACE, c -> call.on(c, 60));
        refused("place -1", NO_PLACE, c -> call.on(c, -1));
        refused("place far below", NO_PLACE, c -> call.on(c, LOW));
        refused("place far above", NO_PLACE, c -> call.on(c, HIGH));
    }

    private static void p37shift() {
        sentence("Promise 37", "n elements of a ROW from i on come to another one (or the same) from j on, as they all were before: n.");
        for (int sort = 0; sort < 5; sort++) {
            shiftWithin(sort, 0, 1, 59);
            shiftWithin(sort, 1, 0, 59);
            shiftWithin(sort, 0, 0, 60);
            shiftWithin(sort, 10, 12, 40);
            shiftWithin(sort, 60, 60, 0);
            shiftWithin(sort, 60, 0, 0);
            shiftWithin(sort, 59, 0, 1);
        }
        SoupCourt x = new SoupCourt();
        bytes(x, 0, 1, 2, 3);
        bytes(x, 1, 7, 7, 7, 7, 7);
        due("to another one, at its end", x.shift(0, 0, 1, 2, 3), 3);
        dues("they come", x, (c, v) -> c.element(1, v), 7, 7, 1, 2, 3);
        dues("they stay", x, (c, v) -> c.element(0, v), 1, 2, 3);
        due("none of a ROW of none", x.row(2, 0, 0) + x.shift(2, 0, 2, 0, 0), 1);
    }

    private static void p37shiftRefusals() {
        sentence("Promise 37", "BAD, -11 (either), -12 (no ROWS, or of unlike sorts), -13.");
        // SHELF 0 and 1: 6 bytes in the midst, 60 at the court's ends
        shelfEdges("shift() from", (c, v) -> c.shift(v, 0, 1, 0, 1));
        shelfEdges("shift() to", (c, v) -> c.shift(1, 0, v, 0, 1));
        farOff("SHELF", (c, v) -> c.shift(v, 0, 1, 0, 1));
        farOff("the other SHELF", (c, v) -> c.shift(1, 0, v, 0, 1));
        refused("from nothing", NOTHING, c -> c.shift(3, 0, 1, 0, 1));
        refused("to nothing", NOTHING, c -> c.shift(1, 0, 3, 0, 1));
        refused("from nothing to nothing", NOTHING, c -> c.shift(3, 0, 3, 0, 0));
        refused("from nothing to a LADLE", NOTHING, c -> c.shift(3, 0, 5, 0, 1));
        refused("from a LADLE to nothing", NOTHING, c -> c.shift(5, 0, 3, 0, 1));
        refused("from a LADLE", OTHER_KIND, c -> c.shift(5, 0, 1, 0, 1));
        refused("to a LADLE", OTHER_KIND, c -> c.shift(1, 0, 5, 0, 1));
        refused("from a LADLE to itself", OTHER_KIND, c -> c.shift(5, 0, 5, 0, 0));
        refused("of unlike sorts", OTHER_KIND, c -> c.shift(0, 0, 4, 0, 1));
        refused("of unlike sorts, none of them", OTHER_KIND, c -> c.shift(4, 0, 0, 0, 0));
        refused("of unlike sorts, from no place", OTHER_KIND, c -> c.shift(4, 99, 0, -1, -1));
        for (int sort = 1; sort < 5; sort++) {
            int other = sort;
            refusedBehind(c -> c.row(2, other, 6), "bytes to sort " + sort, OTHER_KIND, c -> c.shift(0, 0, 2, 0, 1));
            refusedBehind(c -> c.row(2, other, 6) + c.row(3, other % 4 + 1, 6), "sort " + sort + " to another", OTHER_KIND, c -> c.shift(2, 0, 3, 0, 1));
        }
        int[][] places = {{-1, 0, 1}, {0, -1, 1}, {0, 0, -1}, {0, 0, 61}, {1, 0, 60}, {0, 1, 60}, {61, 0, 0}, {0, 61, 0}, {60, 0, 1}, {0, 60, 1},
            {-1, 0, 0}, {0, -1, 0}, {LOW, 0, 0}, {0, LOW, 0}, {0, 0, LOW}, {HIGH, 0, 0}, {0, HIGH, 0}, {0, 0, HIGH}, {1, 0, HIGH}, {0, 1, HIGH},
            {HIGH, HIGH, HIGH}, {HIGH, 0, 1}, {LOW, LOW, LOW}, {2, 2, HIGH - 1}};
        for (int[] p : places) {
            refused("from " + p[0] + " to " + p[1] + ", " + p[2], NO_PLACE, c -> c.shift(0, p[0], 1, p[1], p[2]));
            refused("from " + p[0] + " to " + p[1] + " of the same, " + p[2], NO_PLACE, c -> c.shift(0, p[0], 0, p[1], p[2]));
        }
        int[][] ofSix = {{0, 0, 7}, {1, 0, 6}, {0, 1, 6}, {7, 0, 0}, {0, 7, 0}, {6, 0, 1}, {0, 6, 1}};
        for (int[] p : ofSix) {
            refused(State.MIDST, "of six from " + p[0] + " to " + p[1] + ", " + p[2], NO_PLACE, c -> c.shift(0, p[0], 1, p[1], p[2]));
            taken(State.AT_ITS_ENDS, "of sixty from " + p[0] + " to " + p[1] + ", " + p[2], c -> c.shift(0, p[0], 1, p[1], p[2]));
        }
        refused("to a ROW of none", NO_PLACE, c -> c.shift(0, 0, 2, 0, 1));
        refused("from a ROW of none", NO_PLACE, c -> c.shift(2, 0, 0, 0, 1));
    }

    private static void shiftWithin(int sort, int i, int j, int n) {
        SoupCourt x = new SoupCourt();
        x.row(0, sort, 60);
        long[] due = new long[60];
        for (int at = 0; at < 60; at++) {
            long v = sort == 4 ? (at * at / 3) % 2 : at + 1;
            x.put(0, at, v);
            due[at] = v;
        }
        System.arraycopy(due.clone(), i, due, j, n);
        due("sort " + sort + " from " + i + " to " + j + ", " + n, x.shift(0, i, 0, j, n), n);
        dues("as they all were before", x, (c, at) -> c.element(0, at), due);
    }

    private static void p38taken() {
        sentence("Promise 38", "What a SHELF holds, taken for a LADLE of KIND k (0 .. 7), or under it: its KIND. BAD, -11, -12.");
        // by KIND, the KINDS (bits) that it can be taken for: itself and those above
        int[] takenFor = {1, 2 + 1, 4 + 1, 8 + 4 + 1, 16 + 2 + 1, 32 + 8 + 4 + 1, 64 + 1, 128 + 16 + 2 + 1};
        for (int kind = 0; kind < 8; kind++) {
            SoupCourt x = new SoupCourt();
            x.body(kind);
            x.keep(5, 0);
            for (int k = 0; k < 8; k++) {
                due("KIND " + kind + " for " + k, x.taken(5, k), (takenFor[kind] >> k & 1) == 1 ? kind : OTHER_KIND);
            }
        }
        // SHELF 5 holds LADLE 1, which is of KIND 0
        edges("k", 0, 0, (c, v) -> v == 1 ? c.taken(5, 8) : c.taken(5, v));
        farOff("k", (c, v) -> c.taken(5, v));
        bad("SHELF -1", c -> c.taken(-1, 0));
        bad("SHELF 6", c -> c.taken(6, 0));
        farOff("SHELF", (c, v) -> c.taken(v, 0));
        refused("nothing", NOTHING, c -> c.taken(3, 0));
        refused("nothing, for KIND 7", NOTHING, c -> c.taken(3, 7));
        refused(State.NEW, "nothing", NOTHING, c -> c.taken(0, 0));
        refused("a ROW", OTHER_KIND, c -> c.taken(0, 0));
        refused("a ROW of none", OTHER_KIND, c -> c.taken(2, 0));
        refused("a LADLE for a BONE", OTHER_KIND, c -> c.taken(5, 1));
        refused("a LADLE for a WATER", OTHER_KIND, c -> c.taken(5, 7));
        refused("BAD by k comes first", BAD, c -> c.taken(3, 8));
        refused("BAD by k comes first", BAD, c -> c.taken(0, -1));
        changesNothing("taken()", c -> c.taken(5, 0));
    }

    private static void p39count() {
        sentence("Promise 39", "How many: 0 HOUSES, 1 NOSES, 2 bytes on THE TAPE, 3 changes that may be UNDONE, 4 BODIES, 5 bodies that ran in the latest act() (all, kept or not). BAD.");
        edgesOfAll("what", 0, 5, SoupCourt::count);
        dues("at first", court(State.NEW), SoupCourt::count, 0, 0, 0, 0, 0, 0, BAD);
        dues("in the midst", court(State.MIDST), SoupCourt::count, 3, 2, 2, 15, 3, 4, BAD);
        dues("at its ends", court(State.AT_ITS_ENDS), SoupCourt::count, 6, 8, 120, 40, 50, 4, BAD);
        changesNothing("count()", c -> c.count(3));
    }
}
