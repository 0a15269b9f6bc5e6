import java.io.IOException;
import java.nio.file.Files;
import java.nio.file.Path;
import java.util.ArrayList;
import java.util.Arrays;
import java.util.BitSet;
import java.util.HashMap;
import java.util.LinkedHashMap;
import java.util.List;
import java.util.Map;
import java.util.regex.Matcher;
import java.util.regex.Pattern;

/**
 * What the tests of the document's boundaries share: the document by its parts, so that a test can name the sentence that
 * it holds; courts in several states; and all that other calls show of a court, so that a refused call can be seen to
 * change nothing.
 */
class Edges {
    static final int BAD = -1, NOT = -2, FULL = -3, STATE = -5;
    static final int NOTHING = -11, OTHER_KIND = -12, NO_PLACE = -13, SIZE = -14;
    static final int LOW = Integer.MIN_VALUE, HIGH = Integer.MAX_VALUE;

    /** A call on a court. */
    interface Call {
        long on(SoupCourt x);
    }

    /** A call on a court with a number that has bounds. */
    interface Of {
        long on(SoupCourt x, int v);
    }

    private static final Map<String, String> PARTS = partsOfTheDocument();
    // of each part, the signs that stand in a sentence some test holds
    private static final Map<String, BitSet> HELD = new HashMap<>();
    // what names a boundary in a sentence
    private static final Pattern BOUNDARY = Pattern.compile(
        "\\d+ \\.\\. \\d+|\\bat most\\b|\\bat least\\b|\\bat first\\b|\\bBAD\\b|\\bNOT\\b|\\bFULL\\b|\\bSTATE\\b|-1[1-4]\\b|-100\\b"
        + "|\\bwraps?\\b|\\b[Nn]one\\b|\\bnothing\\b|\\b[Nn]o\\b|\\blacks\\b|\\bends\\b|\\bmissing\\b|\\bby 0\\b|\\bheld\\b|\\bstays\\b"
        + "|\\bcut\\b|\\bis above\\b|\\bas long as\\b|\\bempty\\b|\\bone or more\\b|\\bof like ones\\b|\\btoo early\\b|\\b1 to 4\\b"
        + "|\\bat once\\b|\\bare kept\\b|\\bas they are\\b|\\bas they all were\\b|\\bpoured away\\b|\\blowest bits\\b|\\bwithin\\b");
    private static String sentence = "";
    private static int sentences = 0, checks = 0, wrong = 0;

    // ---- the document

    private static Map<String, String> partsOfTheDocument() {
        String text;
        try {
            text = Files.readString(Path.of("../shared/DOC.md")).replaceAll("\\s+", " ");
        } catch (IOException missing) {
            throw new IllegalStateException("no document", missing);
        }
        Map<String, String> begins = new LinkedHashMap<>();
        begins.put("What it is", "## What it is ");
        begins.put("The public face", "## The public face ");
        for (int n = 1; n <= 5; n++) {
            begins.put("Terms " + n, "======== " + n + " ");
        }
        begins.put("Answers", "Answers, of several the one named first");
        begins.put("Ahead of the calls", "Ahead of the calls ");
        for (int n = 1; n <= 39; n++) {
            begins.put("Promise " + n, "## Promise " + n + ": ");
        }
        begins.put("Not promised", "## Not promised ");
        List<String> names = new ArrayList<>(begins.keySet());
        Map<String, String> parts = new HashMap<>();
        for (int i = 0; i < names.size(); i++) {
            int from = text.indexOf(begins.get(names.get(i)));
            int to = i + 1 < names.size() ? text.indexOf(begins.get(names.get(i + 1))) : text.length();
            if (from < 0 || to < from) {
                throw new IllegalStateException("the document lacks " + names.get(i));
            }
            parts.put(names.get(i), text.substring(from, to));
        }
        return parts;
    }

    /** A test begins: it holds these words of a part of the document. */
    static void sentence(String part, String words) {
        sentence = part + ", \"" + words + "\"";
        sentences++;
        int from = PARTS.get(part).indexOf(words);
        if (from < 0) {
            wrong++;
            System.out.println("the document does not say: " + sentence);
            return;
        }
        HELD.computeIfAbsent(part, none -> new BitSet()).set(from, from + words.length());
    }

    /** Ends a test class: each boundary that these parts name must be held by some sentence's test. */
    static void end(String... parts) {
        for (String part : parts) {
            Matcher boundary = BOUNDARY.matcher(PARTS.get(part));
            while (boundary.find()) {
                checks++;
                if (HELD.getOrDefault(part, new BitSet()).nextClearBit(boundary.start()) < boundary.end()) {
                    wrong++;
                    int from = Math.max(0, boundary.start() - 60);
                    System.out.println("no test holds " + part + ": .." + PARTS.get(part).substring(from, boundary.end()));
                }
            }
        }
        System.out.println(sentences + " sentences, " + checks + " checks, " + wrong + " wrong");
        if (wrong != 0) {
            System.exit(1);
        }
    }

    // ---- what is due

    static void due(String what, long got, long want) {
        checks++;
        if (got != want) {
            wrong++;
            System.out.println(sentence + ": " + what + " answered " + got + ", due is " + want);
        }
    }

    /** Each of several calls' answers, the first by 0. */
    static void dues(String what, SoupCourt x, Of call, long... want) {
        for (int i = 0; i < want.length; i++) {
            due(what + " at " + i, call.on(x, i), want[i]);
        }
    }

    /** A call is refused in a state, and what all other calls show afterwards is as if it had not been. */
    static void refused(State state, String what, long want, Call call) {
        for (int probe = 0; probe < PROBES; probe++) {
            SoupCourt x = court(state);
            due(what + ", refused in " + state, call.on(x), want);
            asItWas(state, what, x, probe);
        }
    }

    /** The same behind some calls more, the last of which is not asked for its answer. */
    static void refusedBehind(Call ahead, String what, long want, Call call) {
        refusedBehind(State.MIDST, ahead, what, want, call);
    }

    static void refusedBehind(State state, Call ahead, String what, long want, Call call) {
        for (int probe = 0; probe < PROBES; probe++) {
            SoupCourt x = court(state);
            ahead.on(x);
            due(what + ", refused", call.on(x), want);
            SoupCourt y = court(state);
            ahead.on(y);
            due(what + ": place at which probe " + probe + " shows another number", Arrays.mismatch(shown(x, probe), shown(y, probe)), -1);
        }
    }

    /** What is taken for a soup, and what is none: the call reads it on SHELF 2. */
    static void soupEdges(String what, Call call) {
        int[][] some = {{0, 0, 0, 0, 0}, {99, 99, 99, 99, 99}, {0, 99, 0, 99, 0, 100}, {1, 2, 3, 4, 5, -1}, new int[60]};
        int[][] none = {{}, {7}, {1, 2, 3, 4}};
        for (int[] soup : some) {
            SoupCourt x = court(State.MIDST);
            bytes(x, 2, soup);
            due(what + " takes five such bytes of " + soup.length, call.on(x) >= 0 ? 1 : 0, 1);
        }
        for (int[] soup : none) {
            refusedBehind(x -> bytes(x, 2, soup), what + " with " + soup.length + " bytes", BAD, call);
        }
        for (int i = 0; i < 5; i++) {
            for (int v : new int[] {-1, 100, 127, -128}) {
                int[] soup = {1, 2, 3, 4, 5, 6};
                soup[i] = v;
                refusedBehind(x -> bytes(x, 2, soup), what + " with byte " + i + " of " + v, BAD, call);
            }
        }
    }

    /** A call that needs a ROW of bytes on the SHELF that it is given; one of a soup or more, or of a MIX. */
    static void rowOfBytesEdges(String what, Of call) {
        shelfEdges(what, call);
        refused(what + " of nothing", NOTHING, x -> call.on(x, 3));
        refused(what + " of shorts", OTHER_KIND, x -> call.on(x, 4));
        refused(what + " of a LADLE", OTHER_KIND, x -> call.on(x, 5));
        for (int sort = 2; sort < 5; sort++) {
            int other = sort;
            refusedBehind(x -> x.row(2, other, 5), what + " of a ROW of sort " + sort, OTHER_KIND, x -> call.on(x, 2));
        }
    }

    static void shelfEdges(String what, Of call) {
        for (int shelf = 0; shelf <= 5; shelf++) {
            SoupCourt x = court(State.MIDST);
            bytes(x, shelf, 1, 1, 0, 0, 0);
            due(what + " of SHELF " + shelf, call.on(x, shelf) >= 0 ? 1 : 0, 1);
        }
        bad(what + " of SHELF -1", x -> call.on(x, -1));
        bad(what + " of SHELF 6", x -> call.on(x, 6));
    }

    static void refused(String what, long want, Call call) {
        refused(State.MIDST, what, want, call);
        refused(State.AT_ITS_ENDS, what, want, call);
    }

    /** BAD comes ahead of all, so that it is the answer in any state. */
    static void bad(String what, Call call) {
        for (State state : State.values()) {
            refused(state, what, BAD, call);
        }
    }

    static void taken(State state, String what, Call call) {
        long got = call.on(court(state));
        due(what + ", taken in " + state + " (" + got + ")", got >= 0 ? 1 : 0, 1);
    }

    /** A number is taken from one on to another; the first ones on either side are BAD. */
    static void edges(State state, String what, int from, int to, Of call) {
        taken(state, what + " " + from, x -> call.on(x, from));
        taken(state, what + " " + to, x -> call.on(x, to));
        bad(what + " " + (from - 1), x -> call.on(x, from - 1));
        bad(what + " " + (to + 1), x -> call.on(x, to + 1));
    }

    static void edges(String what, int from, int to, Of call) {
        edges(State.MIDST, what, from, to, call);
    }

    /** A number that is an argument by itself: the least and the most ints there are can't be taken either. */
    static void edgesOfAll(String what, int from, int to, Of call) {
        edges(what, from, to, call);
        farOff(what, call);
    }

    static void farOff(String what, Of call) {
        bad(what + " far below", x -> call.on(x, LOW));
        bad(what + " far above", x -> call.on(x, HIGH));
    }

    /** A call in thought: it answers, and changes nothing. */
    static void changesNothing(String what, Call call) {
        for (State state : State.values()) {
            for (int probe = 0; probe < PROBES; probe++) {
                SoupCourt x = court(state);
                call.on(x);
                asItWas(state, what, x, probe);
            }
        }
    }

    private static void asItWas(State state, String what, SoupCourt x, int probe) {
        long[] was = WAS[state.ordinal()][probe];
        if (was == null) {
            was = shown(court(state), probe);
            WAS[state.ordinal()][probe] = was;
        }
        long[] is = shown(x, probe);
        due(what + " in " + state + ": probe " + probe + " shows another number at its place", Arrays.mismatch(is, was), -1);
    }

    // ---- helpers on courts

    static long bytes(SoupCourt x, int shelf, int... values) {
        due("row", x.row(shelf, 0, values.length), 1);
        for (int i = 0; i < values.length; i++) {
            if (values[i] != 0) {
                due("put", x.put(shelf, i, values[i]), 1);
            }
        }
        return 1;
    }

    static void feed(SoupCourt x, String text) {
        for (int i = 0; i < text.length(); i++) {
            x.feed(text.charAt(i));
        }
    }

    static int lawOf(SoupCourt x, String text) {
        feed(x, text);
        return x.law();
    }

    static SoupCourt withLaw(String text) {
        SoupCourt x = new SoupCourt();
        due("law " + text, lawOf(x, text), 1);
        return x;
    }

    static String times(int n, String text) {
        return text.repeat(n);
    }

    // ---- courts in several states; SHELF 3 holds nothing, 4 shorts, 5 a LADLE in all but the new one

    enum State {
        NEW, MIDST, AT_ITS_ENDS
    }

    static final int PROBES = 5;
    private static final long[][][] WAS = new long[State.values().length][PROBES][];

    static SoupCourt court(State state) {
        SoupCourt x = new SoupCourt();
        if (state == State.MIDST) {
            makeMidst(x);
        } else if (state == State.AT_ITS_ENDS) {
            makeFull(x);
        }
        return x;
    }

    /** Three HOUSES, two NOSES, three BODIES; a law, a begun text, a POT, an image, two CHANGES undone. */
    private static void makeMidst(SoupCourt x) {
        come(x, 3, 2, 3);
        int[][] told = {{0, 0, 4}, {11, 0, 8}, {22, 0, 3}, {33, 0, 9}, {4, 0, 2}, {74, 0, 1},
            {0, 1, 5}, {1, 1, 4}, {2, 1, 1}, {3, 1, 2}, {10, 1, 9}, {17, 1, 3}, {25, 1, 1}, {1, 3, 21}, {0, 4, 6}};
        for (int[] each : told) {
            x.mend(each[0], each[1], each[2]);
        }
        lawOf(x, "s/3+f/2-t/9");
        rows(x, 6);
        x.put(0, 0, 2);
        x.put(0, 1, 1);
        for (int i = 0; i < 5; i++) {
            x.put(1, i, 10 * (i + 1));
        }
        x.pot(0, 0);
        x.minute();
        x.minute();
        x.spoon(1, 0);
        x.fact(3, 20);
        x.image();
        x.fact(0, 10);
        x.minute();
        x.spoon(1, 1);
        x.mend(0, 4, 3);
        x.mend(0, 2, 8);
        x.undo();
        x.undo();
        x.act(1, 3, 5);
        feed(x, "s+");
    }

    /** As many of all as there may be, all that may be told at its most, and HOUSE 0's larder empty again. */
    private static void makeFull(SoupCourt x) {
        come(x, 6, 8, 50);
        for (int taste = 0; taste < 5; taste++) {
            x.mend(70 + taste, 0, 9);
        }
        for (int thing = 0; thing < 8; thing++) {
            x.mend(thing, 1, 9);
        }
        x.mend(57, 1, 9);
        x.mend(7, 3, 0);
        for (int i = 0; i < 30; i++) {
            x.mend(0, 4, i % 2 == 0 ? 0 : 9);
        }
        lawOf(x, "9");
        rows(x, 60);
        for (int i = 0; i < 9; i++) {
            x.put(0, i, 9);
        }
        for (int i = 0; i < 5; i++) {
            x.put(1, i, 99);
        }
        x.pot(0, 0);
        x.image();
        x.minute();
        x.minute();
        x.act(49, 3, HIGH);
        feed(x, times(120, "s"));
    }

    private static void come(SoupCourt x, int houses, int noses, int bodies) {
        for (int i = 0; i < houses; i++) {
            x.house();
        }
        for (int i = 0; i < noses; i++) {
            x.nose(i == noses - 1 ? 50 : i + 1);
        }
        for (int i = 0; i < bodies; i++) {
            x.body((i + 7) % 8);
        }
    }

    private static void rows(SoupCourt x, int n) {
        x.row(0, 0, n);
        x.row(1, 0, n);
        x.row(2, 0, 0);
        x.row(4, 1, n);
        x.put(4, n - 1, -300);
        x.keep(5, 1);
    }

    // ---- what other calls show; each probe stays within the calls that a court is good for

    private static long[] shown(SoupCourt x, int probe) {
        List<Long> shown = new ArrayList<>();
        switch (probe) {
            case 0:
                numbers(x, shown);
                deeds(x, shown);
                for (int i = 0; i < 25; i++) {
                    shown.add((long) x.trace(i));
                }
                break;
            case 1:
                elements(x, shown, 0, 3);
                break;
            case 2:
                elements(x, shown, 4, 5);
                break;
            case 3:
                whatHasBeen(x, shown);
                break;
            default:
                shown.add((long) x.back());
                larders(x, shown);
                deeds(x, shown);
                shown.add((long) x.minute());
                deeds(x, shown);
                break;
        }
        return shown.stream().mapToLong(each -> each).toArray();
    }

    private static void numbers(SoupCourt x, List<Long> shown) {
        for (int i = 0; i < 40; i++) {
            shown.add((long) x.of(i / 5 * 10 + i % 5, 0));
        }
        larders(x, shown);
        for (int i = 0; i < 16; i++) {
            shown.add((long) x.of(i / 2, 2 + i % 2));
        }
        shown.add((long) x.of(0, 4));
        for (int i = 0; i < 6; i++) {
            shown.add((long) x.count(i));
        }
    }

    private static void larders(SoupCourt x, List<Long> shown) {
        for (int i = 0; i < 48; i++) {
            shown.add((long) x.of(i / 8 * 10 + i % 8, 1));
        }
    }

    private static void deeds(SoupCourt x, List<Long> shown) {
        for (int i = 0; i < 5; i++) {
            shown.add((long) x.led(i));
        }
        for (int i = 0; i < 7; i++) {
            shown.add((long) x.potOf(i));
        }
    }

    private static void elements(SoupCourt x, List<Long> shown, int from, int to) {
        for (int shelf = from; shelf <= to; shelf++) {
            for (int i = 0; i < 60; i++) {
                shown.add(x.element(shelf, i));
            }
            shown.add((long) x.taken(shelf, 0));
        }
    }

    /** THE LAW, THE TAPE, and what undo() and redo() walk on. */
    private static void whatHasBeen(SoupCourt x, List<Long> shown) {
        shown.add((long) x.taste(0, 3, 5));
        shown.add((long) x.feed('7'));
        shown.add((long) x.law());
        shown.add((long) x.count(2));
        shown.add((long) x.taste(0, 3, 5));
        for (int i = 0; i < 41; i++) {
            shown.add((long) x.redo());
        }
        changed(x, shown);
        for (int i = 0; i < 41; i++) {
            shown.add((long) x.undo());
        }
        changed(x, shown);
    }

    private static void changed(SoupCourt x, List<Long> shown) {
        int[][] told = {{0, 4}, {0, 2}, {1, 3}, {7, 3}, {0, 0}, {74, 0}, {0, 1}, {17, 1}, {57, 1}};
        for (int[] each : told) {
            shown.add((long) x.of(each[0], each[1]));
        }
    }
}
