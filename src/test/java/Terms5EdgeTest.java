/** Terms 5 of the document, and what it says of all calls: each sentence that names a boundary, by a test of its own. */
public final class Terms5EdgeTest extends Edges {
    public static void main(String[] args) {
        bodies();
        actsThatWrap();
        nextKindAbove();
        theTrace();
        shelvesHoldNothing();
        rowsAndTheirElements();
        lowestBits();
        refusals();
        thingsFromARow();
        thingsEnd();
        thingsAreNoChanges();
        namedFirst();
        constants();
        changesNothingAtAll();
        memoryOfItsOwn();
        mixesAndSoups();
        theMixFirst();
        fiveSuchBytes();
        fiveHundredAndTwelveCalls();
        end("Terms 5", "Answers", "Ahead of the calls", "What it is");
    }

    // ---- LADLES

    private static void bodies() {
        sentence("Terms 5", "LADLES' ways are kept by call as BODIES 0 .. 49, of KINDS: 0 LADLE;");
        SoupCourt x = new SoupCourt();
        for (int body = 0; body < 50; body++) {
            due("a BODY that is not kept", x.keep(0, body), BAD);
            due("a BODY", x.body(body % 8), body);
            due("it can be on a SHELF", x.keep(0, body), 1);
            due("its KIND", x.taken(0, 0), body % 8);
        }
        due("a 51st", x.body(0), FULL);
        due("it is not kept", x.keep(0, 50), BAD);
        due("nor does it act", x.act(50, 0, 7), 0);
        due("the 50th does", x.act(49, 0, 7), 7 + 49 + 3);
        edgesOfAll("KIND", 0, 7, SoupCourt::body);
        refused(State.AT_ITS_ENDS, "a BODY more", FULL, c -> c.body(7));
    }

    // by KIND, what the document's bodies come to
    private static int boils(int kind, int x, int n) {
        return kind == 6 ? (x + n) * 2 : kind == 1 || kind == 4 || kind == 7 ? x + n + 3 : x + n;
    }

    private static int swears(int kind, int x, int n) {
        return kind == 3 || kind == 5 ? (x ^ n) * 3 : kind == 4 || kind == 7 ? (x ^ n) - boils(kind, 2, n) : x ^ n;
    }

    private static int tastes(int kind, int x, int n) {
        switch (kind) {
            case 2:
                return -(boils(kind, x, n) * 2);
            case 3:
            case 5:
                return -(boils(kind, x + 1, n) * 2);
            case 7:
                return boils(kind, x, n) * 2 + swears(kind, 2, n);
            default:
                return boils(kind, x, n) * 2;
        }
    }

    private static int tells(int kind, int x, int n) {
        int told = tastes(kind, x, n) - swears(kind, 1, n);
        return kind == 5 ? told ^ 5 : kind == 7 ? told - 1 : told;
    }

    private static void actsThatWrap() {
        sentence("Terms 5", "ACTS with x (an int that wraps): 0 boils, 1 tastes, 2 swears, 3 tells; n its number.");
        int[] some = {0, 1, -1, 2, LOW, LOW + 1, HIGH, HIGH - 1, HIGH - 48, HIGH - 49, HIGH - 50, HIGH / 2, HIGH / 2 + 1, LOW / 2, LOW / 2 - 1, HIGH / 3 + 1};
        for (int ahead = 0; ahead <= 42; ahead += 42) {
            for (int v : some) {
                SoupCourt x = new SoupCourt();
                for (int n = 0; n < ahead; n++) {
                    x.body(0);
                }
                for (int kind = 0; kind < 8; kind++) {
                    int n = ahead + kind;
                    due("a BODY", x.body(kind), n);
                    dues("KIND " + kind + ", x " + v, x, (c, act) -> c.act(n, act, v), boils(kind, v, n), tastes(kind, v, n), swears(kind, v, n), tells(kind, v, n));
                }
            }
        }
        SoupCourt x = new SoupCourt();
        x.body(0);
        x.body(0);
        dues("HIGH and 1 by LADLE 1", x, (c, act) -> c.act(1, act, HIGH), LOW, 0, HIGH - 1, 0);
    }

    private static void nextKindAbove() {
        sentence("Terms 5", "boils(..) and so on (act 0 is boils): the body of its own KIND, or of the next KIND above that has one; super: from the KIND above the body's on.");
        // by KIND, the body that begins each act: its own, or of the next KIND above that has one
        int[][] begins = {{1, 10, 11, 2}, {20, 10, 11, 2}, {1, 30, 11, 2}, {1, 41, 40, 2}, {20, 10, 50, 2}, {1, 41, 40, 60}, {70, 10, 11, 2}, {20, 80, 50, 81}};
        SoupCourt x = new SoupCourt();
        for (int kind = 0; kind < 8; kind++) {
            x.body(kind);
            for (int act = 0; act < 4; act++) {
                x.act(kind, act, 1);
                due("KIND " + kind + " begins act " + act, x.trace(0), begins[kind][act]);
            }
        }
        int[][] supers = {{1, 0, 1}, {2, 1, 10}, {3, 1, 30}, {3, 2, 11}, {4, 2, 11}, {5, 3, 2}, {6, 0, 1}, {7, 1, 10}, {7, 3, 2}};
        for (int[] each : supers) {
            x.act(each[0], each[1], 1);
            due("KIND " + each[0] + ", act " + each[1] + ": super", x.trace(1), each[2]);
        }
    }

    private static void theTrace() {
        sentence("Terms 5", "THE TRACE: numbers of the bodies that ran in the latest act(), as they began; the first 24 are kept.");
        SoupCourt x = new SoupCourt();
        due("no act yet", x.count(5), 0);
        due("nothing ran", x.trace(0), BAD);
        int most = 0;
        for (int kind = 0; kind < 8; kind++) {
            x.body(kind);
            for (int act = 0; act < 4; act++) {
                x.act(kind, act, 1);
                int ran = x.count(5);
                most = Math.max(most, ran);
                due("all that ran are kept", x.trace(ran - 1) > 0 ? 1 : 0, 1);
                due("no more than ran", x.trace(ran), BAD);
            }
        }
        // so that no act gets as far as the 24
        due("as many as can run", most, 14);
        x.act(7, 3, 1);
        dues("the longest", x, SoupCourt::trace, 81, 2, 80, 10, 20, 1, 50, 11, 20, 1, 50, 11, 20, 1, BAD, BAD, BAD, BAD, BAD, BAD, BAD, BAD, BAD, BAD, BAD, BAD);
        x.act(0, 0, 1);
        dues("the latest alone", x, SoupCourt::trace, 1, BAD, BAD);
        due("BAD below 0", x.trace(-1), BAD);
    }

    // ---- SHELVES

    private static void shelvesHoldNothing() {
        sentence("Terms 5", "SHELVES 0 .. 5 each hold nothing (at first), a LADLE (a BODY), or a ROW:");
        for (int shelf = 0; shelf <= 5; shelf++) {
            SoupCourt x = new SoupCourt();
            due("nothing at first", x.taken(shelf, 0), NOTHING);
            due("no element", x.element(shelf, 0), Long.MIN_VALUE);
            x.body(2);
            due("a LADLE", x.keep(shelf, 0), 1);
            due("it is there", x.taken(shelf, 0), 2);
            due("a ROW in its place", x.row(shelf, 3, 1), 1);
            due("it is there", x.taken(shelf, 0), OTHER_KIND);
            due("its element", x.element(shelf, 0), 0);
            due("nothing again", x.keep(shelf, -1), 1);
            due("nothing is there", x.put(shelf, 0, 1), NOTHING);
            for (int other = 0; other <= 5; other++) {
                due("another SHELF", x.taken(other, 0), NOTHING);
            }
        }
        edgesOfAll("SHELF for nothing", 0, 5, (c, v) -> c.keep(v, -1));
        edgesOfAll("SHELF for a ROW", 0, 5, (c, v) -> c.row(v, 0, 1));
    }

    private static void rowsAndTheirElements() {
        sentence("Terms 5", "of 0 bytes, 1 shorts, 2 ints, 3 longs, 4 booleans, of 0 .. 60 elements, 0 at first (false);");
        edgesOfAll("sort", 0, 4, (c, v) -> c.row(0, v, 60));
        edges("elements", 0, 60, (c, v) -> v < 0 ? BAD : c.row(0, 0, v));
        for (int sort = 0; sort < 5; sort++) {
            for (int n : new int[] {0, 1, 59, 60}) {
                SoupCourt x = new SoupCourt();
                due("a ROW", x.row(2, sort, n), 1);
                for (int i = 0; i < n; i++) {
                    due("0 at first", x.element(2, i), 0);
                    due("put", x.put(2, i, 1), 1);
                    due("it is there", x.element(2, i), 1);
                }
                due("none behind the end", x.put(2, n, 1), NO_PLACE);
                due("none behind the end", x.element(2, n), Long.MIN_VALUE);
                due("none below 0", x.put(2, -1, 1), NO_PLACE);
                due("a new ROW", x.row(2, sort, 60), 1);
                due("0 at first again", x.element(2, 0), 0);
            }
        }
    }

    private static void lowestBits() {
        sentence("Terms 5", "what is put in keeps its lowest bits (a boolean: whether it is not 0; 1 or 0).");
        long[][] edges = {{127, 128, -128, -129, 255, 256, -256}, {32767, 32768, -32768, -32769, 65535, 65536, -65536},
            {HIGH, HIGH + 1L, LOW, LOW - 1L, 0xffffffffL, 1L << 32, -1L << 32},
            {Long.MAX_VALUE, Long.MIN_VALUE, Long.MIN_VALUE, Long.MAX_VALUE, -1, 0, 0}};
        for (int sort = 0; sort < 4; sort++) {
            long most = edges[sort][0];
            long least = -most - 1;
            long[] kept = {most, least, least, most, -1, 0, 0};
            SoupCourt x = new SoupCourt();
            x.row(0, sort, 7);
            for (int i = 0; i < 7; i++) {
                due("put", x.put(0, i, edges[sort][i]), 1);
                due("sort " + sort + " of " + edges[sort][i], x.element(0, i), kept[i]);
            }
            due("0", x.put(0, 0, 0), 1);
            due("sort " + sort + " of 0", x.element(0, 0), 0);
        }
        SoupCourt x = new SoupCourt();
        x.row(0, 4, 2);
        for (long v : new long[] {1, -1, 2, 256, 65536, 1L << 32, Long.MIN_VALUE, Long.MAX_VALUE}) {
            due("put", x.put(0, 1, v), 1);
            due("true by " + v, x.element(0, 1), 1);
            due("put", x.put(0, 1, 0), 1);
            due("false by 0", x.element(0, 1), 0);
        }
        // a byte that wraps is what the MIX sees
        lawOf(x, "w");
        x.row(1, 0, 1);
        x.put(1, 0, 256 + 7);
        due("263 is 7", x.taste(1, 1, 0), 7);
        x.put(1, 0, 256 - 1);
        due("255 is -1, and ends the MIX", x.taste(1, 1, 0), 0);
    }

    private static void refusals() {
        sentence("Terms 5", "The host's REFUSALS: -11 nothing is there where something is wanted; -12 it is of another kind; -13 a place that is not there; -14 a size below 0.");
        refused("put() on nothing", NOTHING, c -> c.put(3, 0, 1));
        refused(State.NEW, "put() on nothing", NOTHING, c -> c.put(0, 0, 1));
        refused("put() on a LADLE", OTHER_KIND, c -> c.put(5, 0, 1));
        refused("put() at -1", NO_PLACE, c -> c.put(0, -1, 1));
        refused("put() at the end of a ROW", NO_PLACE, c -> c.put(2, 0, 1));
        refused("put() far below", NO_PLACE, c -> c.put(0, LOW, 1));
        refused("put() far above", NO_PLACE, c -> c.put(0, HIGH, 1));
        refused("row() of -1", SIZE, c -> c.row(0, 0, -1));
        refused("row() far below", SIZE, c -> c.row(3, 4, LOW));
        refused(State.NEW, "row() of -1", SIZE, c -> c.row(0, 0, -1));
    }

    // ---- THINGS FROM A ROW

    private static SoupCourt houseWithRow(int... row) {
        SoupCourt x = new SoupCourt();
        x.house();
        for (int thing = 0; thing < 8; thing++) {
            x.mend(thing, 1, 5);
        }
        bytes(x, 0, row);
        return x;
    }

    private static void thingsFromARow() {
        sentence("Terms 5", "THINGS FROM A ROW of bytes, from a place on: by twos a THING, and how much a HOUSE HAS of it then: n of them;");
        int[] row = new int[60];
        for (int i = 0; i < 30; i++) {
            row[2 * i] = i % 8;
            row[2 * i + 1] = i % 10;
        }
        for (int n = 1; n <= 20; n++) {
            SoupCourt x = houseWithRow(row);
            due("n of them", x.things(0, 0, n), n);
            for (int thing = 0; thing < 8; thing++) {
                int last = thing + (n - 1 - thing) / 8 * 8;
                due("HAS of " + thing + " behind " + n, x.of(thing, 1), thing < n ? last % 10 : 5);
            }
        }
        SoupCourt x = houseWithRow(0, 9, 7, 0, 3, 9, 0, 1);
        due("from place 0 on, one", x.things(0, 0, 1), 1);
        due("HAS 9", x.of(0, 1), 9);
        due("from place 2 on, one", x.things(0, 2, 1), 1);
        due("HAS 0", x.of(7, 1), 0);
        due("from place 1 on: 9 is no THING", x.things(0, 1, 20), 0);
        due("from the last two on", x.things(0, 6, 20), 1);
        due("HAS 1", x.of(0, 1), 1);
        due("all", x.things(0, 0, 20), 4);
        due("the later one counts", x.of(0, 1), 1);
        due("n are told, no more", x.things(0, 0, 3), 3);
        due("the earlier one counts", x.of(0, 1), 9);
    }

    private static void thingsEnd() {
        sentence("Terms 5", "it ends where the row is missing, ends (at a place below 0, too; within a two, too), or one is not so: those ahead are told");
        SoupCourt x = houseWithRow(0, 1, 1, 2, 2);
        due("the row is missing", x.things(3, 0, 20), 0);
        due("missing at a place below 0", x.things(3, -1, 20), 0);
        int[] below = {-1, -2, -3, LOW, LOW + 1, 5, 6, 60, HIGH, HIGH - 1};
        for (int place : below) {
            due("it ends at place " + place, x.things(0, place, 20), 0);
        }
        due("nothing is told", x.of(0, 1), 5);
        due("within a two", x.things(0, 4, 20), 0);
        due("within a two, behind two", x.things(0, 0, 20), 2);
        dues("those ahead are told", x, (c, v) -> c.of(v, 1), 1, 2, 5, 5, 5, 5, 5, 5);
        x.row(0, 0, 0);
        due("a ROW of none", x.things(0, 0, 20), 0);
        x.row(0, 0, 1);
        due("a ROW of one", x.things(0, 0, 20), 0);
        int[][] notSo = {{8, 1}, {-1, 1}, {127, 1}, {-128, 1}, {1, 10}, {1, -1}, {1, 127}, {1, -128}};
        for (int[] two : notSo) {
            SoupCourt y = houseWithRow(0, 0, two[0], two[1], 7, 7);
            due("it ends at " + two[0] + " " + two[1], y.things(0, 0, 20), 1);
            dues("the one ahead is told", y, (c, v) -> c.of(v, 1), 0, 5, 5, 5, 5, 5, 5, 5);
            due("at once", y.things(0, 2, 20), 0);
            due("behind it", y.things(0, 4, 20), 1);
        }
        SoupCourt y = houseWithRow(7, 9, 0, 0);
        due("THING 7, 9 of it; THING 0, 0 of it", y.things(0, 0, 20), 2);
        dues("they are so", y, (c, v) -> c.of(v, 1), 0, 5, 5, 5, 5, 5, 5, 9);
    }

    private static void thingsAreNoChanges() {
        sentence("Terms 5", "those ahead are told (no CHANGES).");
        SoupCourt x = houseWithRow(0, 1, 1, 2);
        due("CHANGES", x.count(3), 8);
        x.undo();
        due("two are told", x.things(0, 0, 2), 2);
        due("no CHANGES", x.count(3), 7);
        due("DONE AGAIN still", x.redo(), 0);
        due("HAS", x.of(0, 1), 1);
        due("it is no fact", x.led(0), 0);
    }

    // ---- what is said of all calls

    private static void namedFirst() {
        sentence("Answers", "Answers, of several the one named first: BAD (-1): no such number, or it is not as said; NOT (-2): as told; FULL (-3); STATE (-5): as told; -11 to -14.");
        refused(State.AT_ITS_ENDS, "nose(): BAD ahead of FULL", BAD, c -> c.nose(0));
        refused(State.AT_ITS_ENDS, "feed(): BAD ahead of FULL", BAD, c -> c.feed(256));
        refused(State.AT_ITS_ENDS, "body(): BAD ahead of FULL", BAD, c -> c.body(8));
        refused(State.NEW, "potOf(): BAD ahead of STATE", BAD, c -> c.potOf(7));
        refused(State.NEW, "spoon(): BAD ahead of STATE and -11", BAD, c -> c.spoon(0, 0));
        refused(State.NEW, "pot(): BAD ahead of -11", BAD, c -> c.pot(0, 0));
        refused(State.AT_ITS_ENDS, "fact(): BAD ahead of STATE", BAD, c -> c.fact(0, 1));
        refused(State.AT_ITS_ENDS, "pot(): -11 ahead of STATE", NOTHING, c -> c.pot(3, 0));
        refused("fires(): BAD ahead of NOT", BAD, c -> c.fires(2, 4, 0));
        refused("fires(): -11 ahead of NOT, for no pots are there", NOTHING, c -> c.fires(3, 1, 0));
        refused("row(): BAD ahead of -14", BAD, c -> c.row(0, 5, -1));
        refused("put(): BAD ahead of -13", BAD, c -> c.put(6, -1, 1));
        refused("put(): -11 ahead of -13", NOTHING, c -> c.put(3, -1, 1));
        refused("put(): -12 ahead of -13", OTHER_KIND, c -> c.put(5, -1, 1));
        refused("shift(): -11 ahead of -12", NOTHING, c -> c.shift(5, 0, 3, 0, 1));
        refused("shift(): -12 ahead of -13", OTHER_KIND, c -> c.shift(0, -1, 4, -1, -1));
        refused("taken(): BAD ahead of -11", BAD, c -> c.taken(3, 8));
        refused("taste(): BAD ahead of -11", BAD, c -> c.taste(3, 61, 0));
        refused("taste(): BAD ahead of -12", BAD, c -> c.taste(4, 0, 6));
    }

    private static void constants() {
        sentence("Answers", "VOID is -2000000000.");
        due("BAD", SoupCourt.BAD, -1);
        due("NOT", SoupCourt.NOT, -2);
        due("FULL", SoupCourt.FULL, -3);
        due("STATE", SoupCourt.STATE, -5);
        due("VOID", SoupCourt.VOID, -2000000000);
    }

    private static void changesNothingAtAll() {
        sentence("Answers", "What is answered so changes nothing.");
        // one refused call of each sort, one behind the other
        Call many = c -> {
            long sum = 0;
            sum += c.nose(51) + c.things(4, 0, 1) + c.mend(0, 0, 10) + c.of(0, 5) + c.feed(-1) + c.taste(3, 0, 0) + c.best(2, 0) + c.nearest(2, 0, 0);
            sum += c.apart(12, 0) + c.jury(4, 0) + c.inHouse(2, 0, 0) + c.lent(5, 0) + c.whoCould(3) + c.fires(0, 0, 0) + c.byTurns(2, 1, 0);
            sum += c.drawn(0, 0, 0, 0) + c.fact(4, 0) + c.fact(2, 0) + c.pot(3, 0) + c.potOf(7) + c.spoon(2, 0) + c.led(5) + c.body(8);
            sum += c.trace(24) + c.keep(0, 50) + c.row(0, 0, 61) + c.row(0, 0, -1) + c.put(2, 0, 1) + c.shift(0, 0, 2, 0, 1) + c.taken(0, 0) + c.count(6);
            return sum < 0 ? BAD : 0;
        };
        refused("all of them", BAD, many);
    }

    private static void memoryOfItsOwn() {
        sentence("Answers", "All memory is the class's own.");
        // another court that is made and used between this one's calls shows nothing here
        changesNothing("another court", c -> {
            SoupCourt other = court(State.AT_ITS_ENDS);
            other.back();
            other.row(0, 3, 60);
            return other.mend(0, 0, 3);
        });
    }

    // ---- ahead of the calls

    private static void mixesAndSoups() {
        sentence("Ahead of the calls", "a MIX, soups on SHELVES: BAD, -11, -12 (no ROW of bytes);");
        rowOfBytesEdges("taste()", (c, v) -> c.taste(v, 0, 0));
        rowOfBytesEdges("best() by the MIX", (c, v) -> c.best(10 * v + 1, 0));
        rowOfBytesEdges("best() by the soup", (c, v) -> c.best(v, 0));
        rowOfBytesEdges("nearest()", (c, v) -> c.nearest(v, 0, -1));
        rowOfBytesEdges("apart() by the one", (c, v) -> c.apart(10 * v + 1, 0));
        rowOfBytesEdges("apart() by the other", (c, v) -> c.apart(10 + v, 0));
        rowOfBytesEdges("jury()", (c, v) -> Math.max(c.jury(v, 0), c.jury(v, 1)));
        farOff("SHELF of taste()", (c, v) -> c.taste(v, 0, 0));
        farOff("SHELVES of best()", (c, v) -> c.best(v, 0));
        farOff("SHELF of nearest()", (c, v) -> c.nearest(v, 0, -1));
        farOff("SHELVES of apart()", (c, v) -> c.apart(v, 0));
        farOff("SHELF of jury()", (c, v) -> c.jury(v, 0));
    }

    private static void theMixFirst() {
        sentence("Ahead of the calls", "ms: 10 times the SHELF of the MIX, and that of the soup; the MIX first;");
        SoupCourt x = withLaw("w");
        bytes(x, 0, 3, 3, 3, 3, 3);
        bytes(x, 5, 9, 9, 9, 9, 9);
        due("the MIX on 0, the soup on 5", x.best(5, 1), 5 * (15 - 9));
        due("the MIX on 5, the soup on 0", x.best(50, 1), 15);
        due("both on one", x.best(55, 0), 0);
        due("ms 55", x.best(55, 1), 45);
        for (int ms : new int[] {-1, 6, 9, 16, 56, 60, 65, 66, 100, 155, -10, -11, -55}) {
            bad("ms " + ms, c -> c.best(ms, 0));
        }
        refused("the MIX is nothing, the soup of another kind", NOTHING, c -> c.best(34, 0));
        refused("the MIX is of another kind, the soup nothing", OTHER_KIND, c -> c.best(43, 0));
        refused("the MIX is nothing, the soup is none", NOTHING, c -> c.best(32, 0));
        refused("the MIX is of another kind, the soup is none", OTHER_KIND, c -> c.best(52, 0));
        refused("the MIX is there, the soup nothing", NOTHING, c -> c.best(23, 0));
        refused("the MIX is there, the soup of another kind", OTHER_KIND, c -> c.best(25, 0));
        refused("the MIX is there, the soup is none", BAD, c -> c.best(2, 0));
    }

    private static void fiveSuchBytes() {
        sentence("Ahead of the calls", "a soup's ROW that has not five such bytes at least: BAD");
        soupEdges("best()", c -> c.best(2, 1));
        soupEdges("nearest()", c -> c.nearest(2, 0, -1));
        soupEdges("apart() by the one", c -> c.apart(21, 0));
        soupEdges("apart() by the other", c -> c.apart(12, 0));
        soupEdges("inHouse()", c -> c.inHouse(2, 0, 0));
        soupEdges("byTurns()", c -> c.byTurns(2, 1, 0));
        soupEdges("spoon()", c -> c.spoon(2, 0));
    }

    private static void fiveHundredAndTwelveCalls() {
        sentence("What it is", "An object is used for at most 512 calls after it has been made; what later calls answer is free.");
        SoupCourt x = new SoupCourt();
        for (int call = 1; call <= 511; call++) {
            x.mend(0, 4, call % 10);
        }
        due("the 512th", x.of(0, 4), 1);
        SoupCourt y = new SoupCourt();
        lawOf(y, "m");
        y.house();
        y.row(0, 0, 0);
        y.pot(0, 0);
        for (int call = 6; call <= 511; call++) {
            y.minute();
        }
        due("the 512th", y.led(2), 506);
        // what they answer is free, but they answer: no call ever throws
        for (int call = 0; call < 5000; call++) {
            y.minute();
            y.mend(0, 4, call % 10);
            y.fact(3, 0);
            y.spoon(0, 0);
            y.house();
            y.nose(7);
            y.body(7);
            y.feed('s');
            y.act(0, 3, call);
            y.things(0, call, 20);
        }
        due("they end", 1, 1);
    }
}
