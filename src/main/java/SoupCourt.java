import java.util.Arrays;

/**
 * A court that tries cases by soup. What each call promises stands in the document
 * (../shared/DOC.md); words in capitals here are the document's.
 */
public final class SoupCourt {
    public static final int BAD = -1, NOT = -2, FULL = -3, STATE = -5, VOID = -2000000000;

    private static final int NOTHING_THERE = -11, OTHER_KIND = -12, NO_PLACE = -13, SIZE_BELOW_0 = -14;
    private static final int FINE = 0;
    private static final long NO_ELEMENT = -9223372036854775808L;

    private static final int THING_KINDS = 8, TASTE_KINDS = 5, MOST_OF_A_THING = 9;
    private static final int MOST_HOUSES = 6, MOST_SHELVES = 6;
    private static final int LONGEST_THOUGHT = 60, LONGEST_SEARCH = 10;
    // more than two soups can be FAR and than pots can take
    private static final int ABOVE_ALL = 1000;

    // what mend() and of() tell of
    private static final int STRENGTH = 0, HAS = 1, KEEN = 2, WHICH = 3, FIRE = 4;
    private static final int[] LEAST_TOLD = {0, 0, 1, 0, 0};
    private static final int[] MOST_TOLD = {9, 9, 50, 31, 9};

    // what LED counts
    private static final int FACTS = 0, POTS = 1, MINUTES = 2, TASTED = 3, TOLD_APART = 4;

    private static final int EATEN = 0, BURNT = 1, LENT = 2, BOUGHT = 3;

    private final Tape tape = new Tape();
    private final Kitchen kitchen = new Kitchen();
    private final Noses noses = new Noses();
    private final Fires hearth = new Fires();
    private final Scene scene = new Scene();
    private final Scene kept = new Scene();
    private final Changes changes = new Changes();
    private final Ladles ladles = new Ladles();
    private final Shelf[] shelves = new Shelf[MOST_SHELVES];
    private int houses;
    private int housesKept;
    private boolean imageIsKept;

    public SoupCourt() {
        for (int i = 0; i < MOST_SHELVES; i++) {
            shelves[i] = new Shelf();
        }
    }

    // ---- houses, noses

    public int house() {
        if (houses >= MOST_HOUSES) {
            return FULL;
        }
        return houses++;
    }

    public int nose(int keen) {
        if (keen < LEAST_TOLD[KEEN] || keen > MOST_TOLD[KEEN]) {
            return BAD;
        }
        return noses.come(keen);
    }

    public int things(int shelf, int i, int hn) {
        if (!isShelf(shelf) || hn < 0 || !isHouse(hn / 100) || hn % 100 < 1 || hn % 100 > 20) {
            return BAD;
        }
        int refused = shelves[shelf].refusedAsBytes();
        if (refused == NOTHING_THERE) {
            return 0;
        }
        return refused == FINE ? toldFrom(shelves[shelf], i, hn / 100, hn % 100) : refused;
    }

    private int toldFrom(Shelf row, int place, int house, int most) {
        int told = 0;
        for (int at = place; told < most && row.hasPlace(at) && row.hasPlace(at + 1); at += 2) {
            int thing = row.byteAt(at);
            int much = row.byteAt(at + 1);
            if (!isThing(thing) || much < 0 || much > MOST_OF_A_THING) {
                break;
            }
            scene.has[larder(house, thing)] = much;
            told++;
        }
        return told;
    }

    public int mend(int number, int what, int v) {
        if (!isTold(number, what) || v < LEAST_TOLD[what] || v > MOST_TOLD[what]) {
            return BAD;
        }
        int was = told(number, what);
        if (was != v) {
            tell(number, what, v);
            changes.come(number, what, was, v);
        }
        return was;
    }

    public int of(int number, int what) {
        return isTold(number, what) ? told(number, what) : BAD;
    }

    private boolean isTold(int number, int what) {
        if (number < 0) {
            return false;
        }
        switch (what) {
            case STRENGTH:
                return isThing(number / 10) && number % 10 < TASTE_KINDS;
            case HAS:
                return isHouse(number / 10) && isThing(number % 10);
            case KEEN:
            case WHICH:
                return noses.isOne(number);
            case FIRE:
                return number == 0;
            default:
                return false;
        }
    }

    private int told(int number, int what) {
        switch (what) {
            case STRENGTH:
                return kitchen.strength[strengthAt(number / 10, number % 10)];
            case HAS:
                return scene.has[larder(number / 10, number % 10)];
            case KEEN:
                return noses.keen[number];
            case WHICH:
                return noses.which[number];
            default:
                return kitchen.fire;
        }
    }

    private void tell(int number, int what, int v) {
        switch (what) {
            case STRENGTH:
                kitchen.strength[strengthAt(number / 10, number % 10)] = v;
                break;
            case HAS:
                scene.has[larder(number / 10, number % 10)] = v;
                break;
            case KEEN:
                noses.keen[number] = v;
                break;
            case WHICH:
                noses.which[number] = v;
                break;
            default:
                kitchen.fire = v;
                break;
        }
    }

    public int feed(int letter) {
        if (letter < 0 || letter > 255) {
            return BAD;
        }
        return tape.take(letter) ? tape.length : FULL;
    }

    public int law() {
        int fault = tape.readText();
        if (fault < 0) {
            kitchen.law.becomes(tape);
        }
        tape.length = 0;
        return fault < 0 ? 1 : -100 - fault;
    }

    // ---- pots in thought

    public int taste(int shelf, int n, int taste) {
        if (!isShelf(shelf) || n < 0 || n > LONGEST_THOUGHT || taste < 0 || taste > TASTE_KINDS) {
            return BAD;
        }
        int refused = readyMix(shelf);
        return refused == FINE ? kitchen.tasteBehind(n, taste) : refused;
    }

    public int best(int ms, int what) {
        if (!areShelves(ms) || what < 0 || what > 1) {
            return BAD;
        }
        int refused = readyMixAndSoup(ms);
        return refused == FINE ? kitchen.bestMinutes(what == 1) : refused;
    }

    public int nearest(int shelf, int hn, int k) {
        if (!isShelf(shelf) || !isSearch(hn) || k < -1 || k >= Kitchen.SOUGHT) {
            return BAD;
        }
        int refused = readySoup(shelf);
        return refused == FINE ? kitchen.nearestMix(scene.has, hn / 100, hn % 100, k) : refused;
    }

    public int apart(int ss, int nose) {
        if (!areShelves(ss) || !noses.isOne(nose)) {
            return BAD;
        }
        Shelf one = shelves[ss / 10];
        Shelf other = shelves[ss % 10];
        int refused = one.refusedAsBytes();
        if (refused == FINE) {
            refused = other.refusedAsBytes();
        }
        if (refused != FINE) {
            return refused;
        }
        if (!one.giveSoup(0, noses.soups) || !other.giveSoup(0, kitchen.soup)) {
            return BAD;
        }
        return noses.tells(nose, noses.soups, 0, kitchen.soup, 0) ? 1 : 0;
    }

    public int jury(int shelf, int what) {
        if (!isShelf(shelf) || what < 0 || what > 1) {
            return BAD;
        }
        int refused = shelves[shelf].refusedAsBytes();
        if (refused != FINE) {
            return refused;
        }
        int fewest = noses.fewest(shelves[shelf]);
        return fewest < 0 || what == 1 ? fewest : Integer.bitCount(fewest);
    }

    // ---- in the house

    public int inHouse(int shelf, int hn, int what) {
        boolean ofThing = what >= 10 && what < 10 + Kitchen.SOUGHT || what >= 20 && what < 20 + Kitchen.SOUGHT;
        if (!isShelf(shelf) || !isSearch(hn) || !(what == 0 || what == 1 || ofThing)) {
            return BAD;
        }
        int refused = readySoup(shelf);
        return refused == FINE ? kitchen.fittingMixes(scene.has, hn / 100, hn % 100, what) : refused;
    }

    public int lent(int shelf, int house) {
        if (!isShelf(shelf) || !isHouse(house)) {
            return BAD;
        }
        int refused = readyMix(shelf);
        return refused == FINE ? fewestLent(house) : refused;
    }

    private int fewestLent(int house) {
        int lent = 0;
        for (int thing = 0; thing < THING_KINDS; thing++) {
            int lacks = kitchen.mix()[thing] - scene.has[larder(house, thing)];
            if (lacks > 0) {
                if (lacks > hadByOthers(house, thing)) {
                    return NOT;
                }
                lent += lacks;
            }
        }
        return lent;
    }

    private int hadByOthers(int house, int thing) {
        int had = 0;
        for (int other = 0; other < houses; other++) {
            if (other != house) {
                had += scene.has[larder(other, thing)];
            }
        }
        return had;
    }

    public int whoCould(int shelf) {
        if (!isShelf(shelf)) {
            return BAD;
        }
        int refused = readyMix(shelf);
        if (refused != FINE) {
            return refused;
        }
        int could = 0;
        for (int house = 0; house < houses; house++) {
            if (hasMix(house)) {
                could |= 1 << house;
            }
        }
        return could;
    }

    private boolean hasMix(int house) {
        for (int thing = 0; thing < THING_KINDS; thing++) {
            if (kitchen.mix()[thing] > scene.has[larder(house, thing)]) {
                return false;
            }
        }
        return true;
    }

    public int fires(int shelf, int k, int j) {
        if (!isShelf(shelf) || k < 1 || k > Fires.MOST_FIRES || j < -1) {
            return BAD;
        }
        int refused = shelves[shelf].refusedAsBytes();
        return refused == FINE ? hearth.leastTime(shelves[shelf], k, j) : refused;
    }

    public int byTurns(int ms, int n, int what) {
        if (!areShelves(ms) || n < 1 || n > Kitchen.MOST_DEEDS || what < 0 || what > 1) {
            return BAD;
        }
        int refused = readyMixAndSoup(ms);
        return refused == FINE ? kitchen.playedOut(n, what == 1) : refused;
    }

    public int drawn(int seed, int nm, int shelf, int taste) {
        boolean areTerms = nm / 100 >= 1 && nm / 100 <= 30 && nm % 100 >= 1 && nm % 100 <= 40;
        if (!areTerms || !isShelf(shelf) || taste < 0 || taste > TASTE_KINDS) {
            return BAD;
        }
        int refused = readyMix(shelf);
        return refused == FINE ? kitchen.drawnTerms(seed, nm / 100, nm % 100, taste) : refused;
    }

    // ---- in deed

    public int fact(int kind, int ht) {
        if (kind < EATEN || kind > BOUGHT || ht < 0 || !isHouse(ht / 100) || !isThing(ht / 10 % 10)) {
            return BAD;
        }
        int house = ht / 100;
        int other = ht % 10;
        if (kind == LENT ? !isHouse(other) || other == house : other != 0) {
            return BAD;
        }
        int from = larder(house, ht / 10 % 10);
        int to = larder(kind == LENT ? other : house, ht / 10 % 10);
        boolean takes = kind != BOUGHT;
        boolean gives = kind == LENT || kind == BOUGHT;
        if (takes && scene.has[from] == 0 || gives && scene.has[to] >= MOST_OF_A_THING) {
            return STATE;
        }
        if (takes) {
            scene.has[from] -= kind == BURNT ? scene.has[from] : 1;
        }
        if (gives) {
            scene.has[to]++;
        }
        scene.led[FACTS]++;
        return scene.has[from];
    }

    public int pot(int shelf, int house) {
        if (!isShelf(shelf) || !isHouse(house)) {
            return BAD;
        }
        int refused = readyMix(shelf);
        if (refused != FINE) {
            return refused;
        }
        if (!hasMix(house)) {
            return STATE;
        }
        for (int thing = 0; thing < THING_KINDS; thing++) {
            scene.has[larder(house, thing)] -= kitchen.mix()[thing];
        }
        scene.pot.putOn(kitchen.mix());
        scene.potIsOn = true;
        scene.led[POTS]++;
        return scene.pot.howMuch();
    }

    public int minute() {
        if (!scene.potIsOn) {
            return STATE;
        }
        scene.pot.weigh(kitchen.strength);
        scene.pot.pass(0, TASTE_KINDS - 1, kitchen.law, kitchen.fire);
        scene.led[MINUTES]++;
        return scene.pot.minutes;
    }

    public int potOf(int taste) {
        if (taste < 0 || taste > TASTE_KINDS + 1) {
            return BAD;
        }
        if (!scene.potIsOn) {
            return STATE;
        }
        if (taste < TASTE_KINDS) {
            return scene.pot.tastes[taste];
        }
        return taste == TASTE_KINDS ? scene.pot.minutes : scene.pot.howMuch();
    }

    public int spoon(int shelf, int nose) {
        if (!isShelf(shelf) || !noses.isOne(nose)) {
            return BAD;
        }
        int refused = readySoup(shelf);
        if (refused != FINE) {
            return refused;
        }
        if (!scene.potIsOn) {
            return STATE;
        }
        int tells = noses.tells(nose, scene.pot.tastes, 0, kitchen.soup, 0) ? 1 : 0;
        scene.led[TASTED]++;
        scene.led[TOLD_APART] += tells;
        return tells;
    }

    public int led(int what) {
        return what >= FACTS && what <= TOLD_APART ? scene.led[what] : BAD;
    }

    public int image() {
        kept.becomes(scene, houses);
        housesKept = houses;
        imageIsKept = true;
        return scene.led[MINUTES];
    }

    public int back() {
        if (!imageIsKept) {
            return STATE;
        }
        scene.becomes(kept, housesKept);
        return scene.led[MINUTES];
    }

    public int undo() {
        if (changes.done <= 0) {
            return STATE;
        }
        changes.done--;
        int at = changes.done;
        tell(changes.numbers[at], changes.whats[at], changes.before[at]);
        return changes.done;
    }

    public int redo() {
        if (changes.done >= changes.size) {
            return STATE;
        }
        int at = changes.done;
        tell(changes.numbers[at], changes.whats[at], changes.behind[at]);
        changes.done++;
        return changes.size - changes.done;
    }

    // ---- acts, shelves

    public int body(int kind) {
        return Ladles.isKind(kind) ? ladles.come(kind) : BAD;
    }

    public int act(int body, int act, int x) {
        return ladles.acted(body, act, x);
    }

    public int trace(int i) {
        return i >= 0 && i < ladles.traced() ? ladles.trace[i] : BAD;
    }

    public int keep(int shelf, int body) {
        if (!isShelf(shelf) || body != -1 && !ladles.isOne(body)) {
            return BAD;
        }
        shelves[shelf].hold(body);
        return 1;
    }

    public int row(int shelf, int sort, int n) {
        if (!isShelf(shelf) || sort < Shelf.BYTES || sort > Shelf.BOOLEANS || n > Shelf.LONGEST) {
            return BAD;
        }
        if (n < 0) {
            return SIZE_BELOW_0;
        }
        shelves[shelf].holdRow(sort, n);
        return 1;
    }

    public int put(int shelf, int i, long v) {
        int refused = placeRefused(shelf, i);
        if (refused != FINE) {
            return refused;
        }
        shelves[shelf].set(i, v);
        return 1;
    }

    public long element(int shelf, int i) {
        return placeRefused(shelf, i) == FINE ? shelves[shelf].elements[i] : NO_ELEMENT;
    }

    private int placeRefused(int shelf, int i) {
        if (!isShelf(shelf)) {
            return BAD;
        }
        int refused = shelves[shelf].refusedAsRow();
        if (refused != FINE) {
            return refused;
        }
        return shelves[shelf].hasPlace(i) ? FINE : NO_PLACE;
    }

    public int shift(int shelf, int i, int other, int j, int n) {
        if (!isShelf(shelf) || !isShelf(other)) {
            return BAD;
        }
        Shelf from = shelves[shelf];
        Shelf to = shelves[other];
        int one = from.refusedAsRow();
        int another = to.refusedAsRow();
        if (one == NOTHING_THERE || another == NOTHING_THERE) {
            return NOTHING_THERE;
        }
        if (one != FINE || another != FINE || from.sort != to.sort) {
            return OTHER_KIND;
        }
        if (!from.hasPlaces(i, n) || !to.hasPlaces(j, n)) {
            return NO_PLACE;
        }
        System.arraycopy(from.elements, i, to.elements, j, n);
        return n;
    }

    public int taken(int shelf, int k) {
        if (!isShelf(shelf) || !Ladles.isKind(k)) {
            return BAD;
        }
        if (shelves[shelf].holds == Shelf.NOTHING) {
            return NOTHING_THERE;
        }
        if (shelves[shelf].holds == Shelf.ROW) {
            return OTHER_KIND;
        }
        int kind = ladles.kindOf(shelves[shelf].ladle);
        return Ladles.isUnder(kind, k) ? kind : OTHER_KIND;
    }

    public int count(int what) {
        switch (what) {
            case 0:
                return houses;
            case 1:
                return noses.size;
            case 2:
                return tape.length;
            case 3:
                return changes.done;
            case 4:
                return ladles.size;
            case 5:
                return ladles.ran;
            default:
                return BAD;
        }
    }

    // ---- what the calls share

    private boolean isHouse(int house) {
        return house >= 0 && house < houses;
    }

    private static boolean isThing(int thing) {
        return thing >= 0 && thing < THING_KINDS;
    }

    private static boolean isShelf(int shelf) {
        return shelf >= 0 && shelf < MOST_SHELVES;
    }

    private static boolean areShelves(int two) {
        return two >= 0 && isShelf(two / 10) && isShelf(two % 10);
    }

    /** Whether hn tells a HOUSE and how many minutes a search looks ahead. */
    private boolean isSearch(int hn) {
        return hn >= 0 && isHouse(hn / 100) && hn % 100 <= LONGEST_SEARCH;
    }

    private static int larder(int house, int thing) {
        return house * THING_KINDS + thing;
    }

    private static int strengthAt(int thing, int taste) {
        return thing * TASTE_KINDS + taste;
    }

    /** FINE, and the MIX of a SHELF lies ready in the kitchen; or why not. */
    private int readyMix(int shelf) {
        int refused = shelves[shelf].refusedAsBytes();
        if (refused == FINE) {
            shelves[shelf].giveMix(kitchen.mix());
        }
        return refused;
    }

    /** FINE, and the soup of a SHELF lies ready in the kitchen; or why not. */
    private int readySoup(int shelf) {
        int refused = shelves[shelf].refusedAsBytes();
        if (refused == FINE && !shelves[shelf].giveSoup(0, kitchen.soup)) {
            return BAD;
        }
        return refused;
    }

    private int readyMixAndSoup(int ms) {
        int refused = readyMix(ms / 10);
        return refused == FINE ? readySoup(ms % 10) : refused;
    }

    /** THE TAPE, and the reader that makes its text into steps for THE LAW. */
    private static final class Tape {
        private static final int ROOM = 120, MOST_LINES = 60, MOST_OPEN = 6, MOST_DIGITS = 4;
        private static final int ENDED = -1;

        private final int[] letters = new int[ROOM];
        private int length;
        private int place;
        private final int[] steps = new int[ROOM];
        private int made;
        // of each LINE: where the steps of its first E end (where they begin, if it has none), and where its last end
        private final int[] firstEnds = new int[MOST_LINES];
        private final int[] ends = new int[MOST_LINES];
        private int lines;

        boolean take(int letter) {
            if (length >= ROOM) {
                return false;
            }
            letters[length++] = letter;
            return true;
        }

        /** -1, and the steps stand ready, if THE TAPE is a TEXT; else its FAULT. */
        int readText() {
            place = 0;
            made = 0;
            lines = 0;
            boolean reads = readLine();
            for (int n = 0; n < ROOM && reads && next() == ';'; n++) {
                place++;
                reads = readLine();
            }
            return reads && place == length ? -1 : place;
        }

        private int next() {
            return place >= 0 && place < length ? letters[place] : ENDED;
        }

        private void make(int step) {
            if (made < ROOM) {
                steps[made++] = step;
            }
        }

        // Each reader stops at the first byte that does not fit, so that place is the FAULT if it answers false.

        private boolean readLine() {
            int firstEnd = made;
            if (!readE(0)) {
                return false;
            }
            if (next() == '?') {
                place++;
                firstEnd = made;
                if (!readE(0)) {
                    return false;
                }
            }
            if (lines < MOST_LINES) {
                firstEnds[lines] = firstEnd;
                ends[lines] = made;
                lines++;
            }
            return true;
        }

        private boolean readE(int open) {
            boolean reads = readA(open);
            for (int n = 0; n < ROOM && reads && next() == '|'; n++) {
                place++;
                reads = readA(open);
                make(Law.OR);
            }
            return reads;
        }

        private boolean readA(int open) {
            boolean reads = readB(open);
            for (int n = 0; n < ROOM && reads && next() == '&'; n++) {
                place++;
                reads = readB(open);
                make(Law.AND);
            }
            return reads;
        }

        private boolean readB(int open) {
            if (!readS(open)) {
                return false;
            }
            int sign = next();
            if (sign != '<' && sign != '=' && sign != '>') {
                return true;
            }
            place++;
            if (!readS(open)) {
                return false;
            }
            make(sign == '<' ? Law.BELOW : sign == '=' ? Law.SAME : Law.ABOVE);
            return true;
        }

        private boolean readS(int open) {
            boolean reads = readP(open);
            for (int n = 0; n < ROOM && reads && (next() == '+' || next() == '-'); n++) {
                int sign = next();
                place++;
                reads = readP(open);
                make(sign == '+' ? Law.PLUS : Law.LESS);
            }
            return reads;
        }

        private boolean readP(int open) {
            boolean reads = readO(open);
            for (int n = 0; n < ROOM && reads && (next() == '*' || next() == '/' || next() == '%'); n++) {
                int sign = next();
                place++;
                reads = readO(open);
                make(sign == '*' ? Law.TIMES : sign == '/' ? Law.BY : Law.REST);
            }
            return reads;
        }

        private boolean readO(int open) {
            int sign = next();
            if (isDigit(sign)) {
                readNumber();
                return true;
            }
            int name = nameStep(sign);
            if (name != 0) {
                place++;
                make(name);
                return true;
            }
            if (open >= MOST_OPEN || sign != '(' && sign != '!' && sign != '-') {
                return false;
            }
            place++;
            return sign == '(' ? readInner(open + 1) : readSigned(sign, open + 1);
        }

        private boolean readInner(int open) {
            if (!readE(open) || next() != ')') {
                return false;
            }
            place++;
            return true;
        }

        private boolean readSigned(int sign, int open) {
            if (!readO(open)) {
                return false;
            }
            make(sign == '!' ? Law.NO : Law.NEGATED);
            return true;
        }

        private void readNumber() {
            int number = 0;
            for (int n = 0; n < MOST_DIGITS && isDigit(next()); n++) {
                number = number * 10 + next() - '0';
                place++;
            }
            make(number);
        }

        private static boolean isDigit(int sign) {
            return sign >= '0' && sign <= '9';
        }

        /** The step of a NAME; 0 if it is none. */
        private static int nameStep(int sign) {
            switch (sign) {
                case 's':
                    return Law.S;
                case 't':
                    return Law.T;
                case 'm':
                    return Law.M;
                case 'f':
                    return Law.F;
                case 'i':
                    return Law.I;
                case 'w':
                    return Law.W;
                default:
                    return 0;
            }
        }
    }

    /** THE LAW: steps in the order in which a stack works them out; a step of 0 or more is a number. */
    private static final class Law {
        static final int S = -1, T = -2, M = -3, F = -4, I = -5, W = -6;
        static final int NO = -7, NEGATED = -8;
        static final int TIMES = -9, BY = -10, REST = -11, PLUS = -12, LESS = -13;
        static final int BELOW = -14, SAME = -15, ABOVE = -16, AND = -17, OR = -18;

        private static final int NAMES = 6, MOST_GROWTH = 20, MOST_TASTE = 99;

        private final int[] steps = new int[Tape.ROOM];
        private final int[] firstEnds = new int[Tape.MOST_LINES];
        private final int[] ends = new int[Tape.MOST_LINES];
        private int lines;
        private final int[] stack = new int[Tape.ROOM];
        private final int[] named = new int[NAMES];

        void becomes(Tape tape) {
            System.arraycopy(tape.steps, 0, steps, 0, Tape.ROOM);
            System.arraycopy(tape.firstEnds, 0, firstEnds, 0, Tape.MOST_LINES);
            System.arraycopy(tape.ends, 0, ends, 0, Tape.MOST_LINES);
            lines = tape.lines;
        }

        /** What a TASTE is one MINUTE later. */
        int grown(int s, int t, int m, int f, int i, int w) {
            int by = 0;
            if (lines == 0) {
                by = s / 4 - t / 10 + (s > 0 ? f / 5 : 0);
            }
            named[-1 - S] = s;
            named[-1 - T] = t;
            named[-1 - M] = m;
            named[-1 - F] = f;
            named[-1 - I] = i;
            named[-1 - W] = w;
            int from = 0;
            for (int line = 0; line < lines; line++) {
                int firstEnd = firstEnds[line];
                if (firstEnd == from || workedOut(from, firstEnd) != 0) {
                    by = workedOut(firstEnd, ends[line]);
                    break;
                }
                from = ends[line];
            }
            by = Math.max(-MOST_GROWTH, Math.min(MOST_GROWTH, by));
            return Math.max(0, Math.min(MOST_TASTE, t + by));
        }

        private int workedOut(int from, int to) {
            int top = 0;
            for (int at = from; at < to; at++) {
                int step = steps[at];
                if (step >= W) {
                    if (top < stack.length) {
                        stack[top++] = step >= 0 ? step : named[-1 - step];
                    }
                } else if (step >= NEGATED) {
                    if (top >= 1) {
                        int o = stack[top - 1];
                        stack[top - 1] = step == NEGATED ? -o : o == 0 ? 1 : 0;
                    }
                } else if (top >= 2) {
                    top--;
                    stack[top - 1] = joined(step, stack[top - 1], stack[top]);
                }
            }
            return top > 0 ? stack[0] : 0;
        }

        private static int joined(int step, int a, int b) {
            switch (step) {
                case TIMES:
                    return a * b;
                case BY:
                    return b == 0 ? 0 : a / b;
                case REST:
                    return b == 0 ? 0 : a % b;
                case PLUS:
                    return a + b;
                case LESS:
                    return a - b;
                case BELOW:
                    return a < b ? 1 : 0;
                case SAME:
                    return a == b ? 1 : 0;
                case ABOVE:
                    return a > b ? 1 : 0;
                case AND:
                    return a != 0 && b != 0 ? 1 : 0;
                default:
                    return a != 0 || b != 0 ? 1 : 0;
            }
        }
    }

    /** A POT, in deed or in thought. */
    private static final class Pot {
        private static final int MOST_MINUTES = 99;

        private final int[] things = new int[THING_KINDS];
        private final int[] tastes = new int[TASTE_KINDS];
        private int minutes;
        // what the law's s and w are, since weigh()
        private final int[] sums = new int[TASTE_KINDS];
        private int all;

        void putOn(int[] mix) {
            System.arraycopy(mix, 0, things, 0, THING_KINDS);
            begin();
        }

        void begin() {
            Arrays.fill(tastes, 0);
            minutes = 0;
        }

        void becomes(Pot other) {
            System.arraycopy(other.things, 0, things, 0, THING_KINDS);
            System.arraycopy(other.tastes, 0, tastes, 0, TASTE_KINDS);
            minutes = other.minutes;
        }

        int howMuch() {
            int much = 0;
            for (int thing = 0; thing < THING_KINDS; thing++) {
                much += things[thing];
            }
            return much;
        }

        void weigh(int[] strength) {
            Arrays.fill(sums, 0);
            all = 0;
            for (int thing = 0; thing < THING_KINDS; thing++) {
                int much = things[thing];
                if (much > 0) {
                    all += much;
                    for (int taste = 0; taste < TASTE_KINDS; taste++) {
                        sums[taste] += much * strength[strengthAt(thing, taste)];
                    }
                }
            }
        }

        /** One MINUTE of a POT that has been weighed, for the TASTES asked for: no TASTE's growth hangs on another one. */
        void pass(int first, int last, Law law, int fire) {
            for (int taste = first; taste <= last; taste++) {
                tastes[taste] = law.grown(sums[taste], tastes[taste], minutes, fire, taste, all);
            }
            minutes = Math.min(MOST_MINUTES, minutes + 1);
        }

        /** One TASTE of a POT that has been weighed, n minutes after it was put on. */
        int behind(int taste, int n, Law law, int fire) {
            int t = 0;
            for (int m = 0; m < n; m++) {
                t = law.grown(sums[taste], t, m, fire, taste, all);
            }
            return t;
        }

        int farFrom(int[] soup) {
            int far = 0;
            for (int taste = 0; taste < TASTE_KINDS; taste++) {
                far += Math.abs(tastes[taste] - soup[taste]);
            }
            return far;
        }

        int sumOfTastes(int first, int last) {
            int sum = 0;
            for (int taste = first; taste <= last; taste++) {
                sum += tastes[taste];
            }
            return sum;
        }
    }

    /** What pots are cooked by, and the pots in thought. */
    private static final class Kitchen {
        static final int SOUGHT = 4, MOST_DEEDS = 3;

        private static final int NEAREST_BASE = 3, NEAREST_MIXES = 81;
        private static final int FITTING_BASE = 4, FITTING_MIXES = 256;
        private static final int NO_DEED = 4;
        private static final int[] DEEDS = {NO_DEED, 0, 1, 2, 3};

        private final Law law = new Law();
        private final int[] strength = new int[THING_KINDS * TASTE_KINDS];
        private int fire = 5;
        private final int[] soup = new int[TASTE_KINDS];
        private final Pot pot = new Pot();
        // the POT behind each number of deeds, when two cooks take turns
        private final Pot[] turns = new Pot[MOST_DEEDS + 1];
        private int firstDeed;

        Kitchen() {
            for (int i = 0; i <= MOST_DEEDS; i++) {
                turns[i] = new Pot();
            }
        }

        /** The THINGS of the POT in thought. */
        int[] mix() {
            return pot.things;
        }

        int tasteBehind(int n, int taste) {
            pot.weigh(strength);
            int sum = 0;
            for (int each = firstOf(taste); each <= lastOf(taste); each++) {
                sum += pot.behind(each, n, law, fire);
            }
            return sum;
        }

        // A told TASTE of 5 stands for all five.

        private static int firstOf(int taste) {
            return taste < TASTE_KINDS ? taste : 0;
        }

        private static int lastOf(int taste) {
            return taste < TASTE_KINDS ? taste : TASTE_KINDS - 1;
        }

        int bestMinutes(boolean howFar) {
            pot.weigh(strength);
            pot.begin();
            int least = pot.farFrom(soup);
            int which = 0;
            for (int n = 1; n <= LONGEST_THOUGHT; n++) {
                pot.pass(0, TASTE_KINDS - 1, law, fire);
                int far = pot.farFrom(soup);
                if (far < least) {
                    least = far;
                    which = n;
                }
            }
            return howFar ? least : which;
        }

        /** How FAR the nearest MIX is (k below 0), or how much of THING k is in it. */
        int nearestMix(int[] has, int house, int n, int k) {
            int least = ABOVE_ALL;
            int leastAll = 0;
            int nearest = 0;
            for (int code = 0; code < NEAREST_MIXES; code++) {
                if (isMixOf(code, NEAREST_BASE, has, house)) {
                    pot.weigh(strength);
                    int far = farBehind(n, least);
                    if (far < least || far == least && pot.all < leastAll) {
                        least = far;
                        leastAll = pot.all;
                        nearest = code;
                    }
                }
            }
            return k < 0 ? least : digit(nearest, NEAREST_BASE, k);
        }

        /** How FAR it is behind n minutes; it may stop as soon as it is above what is enough to know. */
        private int farBehind(int n, int enough) {
            int far = 0;
            for (int taste = 0; taste < TASTE_KINDS && far <= enough; taste++) {
                far += Math.abs(pot.behind(taste, n, law, fire) - soup[taste]);
            }
            return far;
        }

        int fittingMixes(int[] has, int house, int n, int what) {
            int fitting = 0;
            int first = NOT;
            int least = NOT;
            int most = NOT;
            for (int code = 0; code < FITTING_MIXES; code++) {
                if (isMixOf(code, FITTING_BASE, has, house) && fits(n)) {
                    int much = digit(code, FITTING_BASE, what % 10);
                    first = fitting == 0 ? code : first;
                    least = fitting == 0 ? much : Math.min(least, much);
                    most = Math.max(most, much);
                    fitting++;
                }
            }
            if (what == 0) {
                return fitting;
            }
            return what == 1 ? first : what < 20 ? least : most;
        }

        private boolean fits(int n) {
            pot.weigh(strength);
            for (int taste = 0; taste < TASTE_KINDS; taste++) {
                if (pot.behind(taste, n, law, fire) != soup[taste]) {
                    return false;
                }
            }
            return true;
        }

        /** Whether a HOUSE HAS the MIX of THINGS 0 .. 3 of that code; it lies in the POT then. */
        private boolean isMixOf(int code, int base, int[] has, int house) {
            Arrays.fill(pot.things, 0);
            for (int thing = 0; thing < SOUGHT; thing++) {
                int much = digit(code, base, thing);
                if (much > has[larder(house, thing)]) {
                    return false;
                }
                pot.things[thing] = much;
            }
            return true;
        }

        /** How much of a THING a code tells: that of THING 0 weighs most, so that codes grow THING by THING. */
        private static int digit(int code, int base, int thing) {
            int rest = code;
            for (int below = SOUGHT - 1; below > thing; below--) {
                rest = base > 0 ? rest / base : 0;
            }
            return base > 0 ? rest % base : 0;
        }

        int playedOut(int deeds, boolean whichFirst) {
            turns[0].putOn(pot.things);
            firstDeed = NO_DEED;
            int far = played(0, deeds);
            return whichFirst ? firstDeed : far;
        }

        /** How FAR the POT ends if both do their best from here on; the first one is to move behind an even number. */
        private int played(int done, int deeds) {
            if (done >= deeds || done >= MOST_DEEDS) {
                return turns[Math.min(done, MOST_DEEDS)].farFrom(soup);
            }
            boolean wantsNear = done % 2 == 0;
            boolean any = false;
            int best = 0;
            for (int deed : DEEDS) {
                if (!isDone(deed, turns[done], turns[done + 1])) {
                    continue;
                }
                int far = played(done + 1, deeds);
                if (!any || (wantsNear ? far < best : far > best)) {
                    any = true;
                    best = far;
                    firstDeed = done == 0 ? deed : firstDeed;
                }
            }
            return best;
        }

        /** Whether a deed can be done to a POT; then the other POT is what it becomes. */
        private boolean isDone(int deed, Pot from, Pot to) {
            to.becomes(from);
            if (deed != NO_DEED) {
                if (to.things[deed] >= MOST_OF_A_THING) {
                    return false;
                }
                to.things[deed]++;
            }
            to.weigh(strength);
            to.pass(0, TASTE_KINDS - 1, law, fire);
            return true;
        }

        int drawnTerms(int seed, int terms, int minutes, int taste) {
            int z = seed;
            int sum = 0;
            pot.weigh(strength);
            for (int term = 0; term < terms; term++) {
                pot.begin();
                for (int m = 0; m < minutes; m++) {
                    z = z * 1103515245 + 12345;
                    pot.pass(firstOf(taste), lastOf(taste), law, (z >>> 8) % 10);
                }
                sum += pot.sumOfTastes(firstOf(taste), lastOf(taste));
            }
            return sum;
        }
    }

    /** The NOSES, and the juries that they make. */
    private static final class Noses {
        private static final int ROOM = 8, MOST_SOUPS = 6, MOST_PAIRS = 15, ALL_TASTES = 31;

        private final int[] keen = new int[ROOM];
        private final int[] which = new int[ROOM];
        private int size;
        private final int[] soups = new int[MOST_SOUPS * TASTE_KINDS];
        // of each two soups: the NOSES (bits) that tell them apart
        private final int[] tellers = new int[MOST_PAIRS];
        private int pairs;

        int come(int howKeen) {
            if (size >= ROOM) {
                return FULL;
            }
            keen[size] = howKeen;
            which[size] = ALL_TASTES;
            return size++;
        }

        boolean isOne(int number) {
            return number >= 0 && number < size;
        }

        boolean tells(int number, int[] one, int from, int[] other, int otherFrom) {
            for (int taste = 0; taste < TASTE_KINDS; taste++) {
                boolean tastesIt = (which[number] >> taste & 1) != 0;
                if (tastesIt && Math.abs(one[from + taste] - other[otherFrom + taste]) >= keen[number]) {
                    return true;
                }
            }
            return false;
        }

        /** The fewest NOSES (bits) that tell the soups of a ROW; NOT. */
        int fewest(Shelf row) {
            pairUp(soupsOf(row));
            int fewest = NOT;
            int number = ROOM + 1;
            for (int some = 0; some < 1 << size; some++) {
                if (Integer.bitCount(some) < number && tellAll(some)) {
                    fewest = some;
                    number = Integer.bitCount(some);
                }
            }
            return fewest;
        }

        private int soupsOf(Shelf row) {
            int n = 0;
            for (int each = 0; each < MOST_SOUPS; each++) {
                if (!row.giveSoup(each * TASTE_KINDS, soups)) {
                    break;
                }
                n++;
            }
            return n;
        }

        private void pairUp(int n) {
            pairs = 0;
            for (int one = 0; one < n; one++) {
                for (int other = one + 1; other < n && pairs < MOST_PAIRS; other++) {
                    tellers[pairs++] = tellersOf(one * TASTE_KINDS, other * TASTE_KINDS);
                }
            }
        }

        private int tellersOf(int one, int other) {
            int who = 0;
            for (int number = 0; number < size; number++) {
                if (tells(number, soups, one, soups, other)) {
                    who |= 1 << number;
                }
            }
            return who;
        }

        private boolean tellAll(int some) {
            for (int pair = 0; pair < pairs; pair++) {
                if ((tellers[pair] & some) == 0) {
                    return false;
                }
            }
            return true;
        }
    }

    /** Pots on few fires. */
    private static final class Fires {
        static final int MOST_FIRES = 3;

        private static final int MOST_POTS = 8, LONGEST_POT = 60;

        private final int[] needs = new int[MOST_POTS];
        private int pots;
        private final int[] busy = new int[MOST_FIRES];
        private final int[] way = new int[MOST_POTS];
        private final int[] leastWay = new int[MOST_POTS];
        private int least;

        /** The least time (j below 0), or the fire of the j-th; NOT. */
        int leastTime(Shelf row, int fires, int j) {
            pots = 0;
            for (int i = 0; i < MOST_POTS; i++) {
                int need = row.hasPlace(i) ? row.byteAt(i) : 0;
                if (need < 1 || need > LONGEST_POT) {
                    break;
                }
                needs[i] = need;
                pots++;
            }
            if (j >= pots) {
                return NOT;
            }
            Arrays.fill(busy, 0);
            least = ABOVE_ALL;
            layOn(0, fires, 0);
            return j < 0 ? least : leastWay[j];
        }

        /** Tries the ways in their order, so that the first of the least ones is the one that stays. */
        private void layOn(int pot, int fires, int longest) {
            if (longest >= least) {
                return;
            }
            if (pot >= pots) {
                least = longest;
                System.arraycopy(way, 0, leastWay, 0, MOST_POTS);
                return;
            }
            for (int fire = 0; fire < fires && fire < MOST_FIRES; fire++) {
                way[pot] = fire;
                busy[fire] += needs[pot];
                layOn(pot + 1, fires, Math.max(longest, busy[fire]));
                busy[fire] -= needs[pot];
            }
        }
    }

    /** What an image keeps: what HOUSES HAVE, the POT, what LED tells. */
    private static final class Scene {
        private final int[] has = new int[MOST_HOUSES * THING_KINDS];
        private final int[] led = new int[TOLD_APART + 1];
        private final Pot pot = new Pot();
        private boolean potIsOn;

        void becomes(Scene other, int ofHouses) {
            System.arraycopy(other.has, 0, has, 0, larder(ofHouses, 0));
            System.arraycopy(other.led, 0, led, 0, led.length);
            pot.becomes(other.pot);
            potIsOn = other.potIsOn;
        }
    }

    /** The CHANGES: the first so many stand done, those behind them are undone. */
    private static final class Changes {
        private static final int MOST = 40;

        private final int[] numbers = new int[MOST];
        private final int[] whats = new int[MOST];
        private final int[] before = new int[MOST];
        private final int[] behind = new int[MOST];
        private int done;
        private int size;

        void come(int number, int what, int was, int is) {
            if (done >= MOST) {
                forgetFirst();
            }
            numbers[done] = number;
            whats[done] = what;
            before[done] = was;
            behind[done] = is;
            done++;
            size = done;
        }

        private void forgetFirst() {
            System.arraycopy(numbers, 1, numbers, 0, MOST - 1);
            System.arraycopy(whats, 1, whats, 0, MOST - 1);
            System.arraycopy(before, 1, before, 0, MOST - 1);
            System.arraycopy(behind, 1, behind, 0, MOST - 1);
            done = MOST - 1;
        }
    }

    /** LADLES: their KINDS, their acts, and THE TRACE. */
    private static final class Ladles {
        private static final int ROOM = 50, MOST_TRACED = 24, DEEPEST = 40;
        private static final int LADLE = 0, BONE = 1, LEEK = 2, ARSON = 3, WIDOW = 4;
        private static final int BOILS = 0, TASTES = 1, SWEARS = 2, TELLS = 3, ACTS = 4;
        private static final int NO_KIND = -1;
        private static final int[] ABOVE = {NO_KIND, LADLE, LADLE, LEEK, BONE, ARSON, LADLE, WIDOW};
        // by KIND, the bodies that it has itself of boils, tastes, swears, tells (0: none)
        private static final int[] OWN = {
            1, 10, 11, 2,
            20, 0, 0, 0,
            0, 30, 0, 0,
            0, 41, 40, 0,
            0, 0, 50, 0,
            0, 0, 0, 60,
            70, 0, 0, 0,
            0, 80, 0, 81,
        };

        private final int[] kinds = new int[ROOM];
        private int size;
        private final int[] trace = new int[MOST_TRACED];
        private int ran;
        // the LADLE that acts
        private int number;
        private int kind;

        static boolean isKind(int k) {
            return k >= 0 && k < ABOVE.length;
        }

        static boolean isUnder(int k, int other) {
            int at = k;
            for (int n = 0; n < ABOVE.length && isKind(at); n++) {
                if (at == other) {
                    return true;
                }
                at = ABOVE[at];
            }
            return false;
        }

        int come(int k) {
            if (size >= ROOM) {
                return FULL;
            }
            kinds[size] = k;
            return size++;
        }

        boolean isOne(int ladle) {
            return ladle >= 0 && ladle < size;
        }

        int kindOf(int ladle) {
            return isOne(ladle) ? kinds[ladle] : NO_KIND;
        }

        int traced() {
            return Math.min(ran, MOST_TRACED);
        }

        int acted(int ladle, int which, int x) {
            ran = 0;
            if (!isOne(ladle) || which < BOILS || which > TELLS) {
                return 0;
            }
            number = ladle;
            kind = kinds[ladle];
            return run(kind, which, x, 0);
        }

        private static int bodyFrom(int k, int which) {
            int at = k;
            for (int n = 0; n < ABOVE.length && isKind(at); n++) {
                int found = OWN[at * ACTS + which];
                if (found != 0) {
                    return found;
                }
                at = ABOVE[at];
            }
            return 0;
        }

        private void began(int found) {
            if (ran < MOST_TRACED) {
                trace[ran] = found;
            }
            ran++;
        }

        /** The first body from a KIND upward: from the LADLE's own for a call, from the one above the body's for super. */
        private int run(int from, int which, int x, int depth) {
            if (depth > DEEPEST) {
                return 0;
            }
            int deeper = depth + 1;
            int found = bodyFrom(from, which);
            began(found);
            switch (found) {
                case 1:
                    return x + number;
                case 2:
                    return run(kind, TASTES, x, deeper) - run(kind, SWEARS, 1, deeper);
                case 10:
                    return run(kind, BOILS, x, deeper) * 2;
                case 11:
                    return x ^ number;
                case 20:
                    return run(LADLE, BOILS, x, deeper) + 3;
                case 30:
                    return -run(LADLE, TASTES, x, deeper);
                case 40:
                    return run(LEEK, SWEARS, x, deeper) * 3;
                case 41:
                    return run(LEEK, TASTES, x + 1, deeper);
                case 50:
                    return run(BONE, SWEARS, x, deeper) - run(kind, BOILS, 2, deeper);
                case 60:
                    return run(ARSON, TELLS, x, deeper) ^ 5;
                case 70:
                    return run(LADLE, BOILS, x, deeper) * 2;
                case 80:
                    return run(WIDOW, TASTES, x, deeper) + run(kind, SWEARS, 2, deeper);
                case 81:
                    return run(WIDOW, TELLS, x, deeper) - 1;
                default:
                    return 0;
            }
        }
    }

    /** A SHELF: nothing, a LADLE, or a ROW. */
    private static final class Shelf {
        static final int NOTHING = 0, LADLE = 1, ROW = 2;
        static final int BYTES = 0, SHORTS = 1, INTS = 2, LONGS = 3, BOOLEANS = 4;
        static final int LONGEST = 60;

        private static final int MOST_IN_SOUP = 99;

        private int holds;
        private int ladle;
        private int sort;
        private int length;
        private final long[] elements = new long[LONGEST];

        void hold(int body) {
            holds = body < 0 ? NOTHING : LADLE;
            ladle = body;
        }

        void holdRow(int ofSort, int n) {
            holds = ROW;
            sort = ofSort;
            length = n;
            Arrays.fill(elements, 0L);
        }

        /** FINE if a ROW is there; or why not. */
        int refusedAsRow() {
            if (holds == NOTHING) {
                return NOTHING_THERE;
            }
            return holds == ROW ? FINE : OTHER_KIND;
        }

        int refusedAsBytes() {
            int refused = refusedAsRow();
            return refused == FINE && sort != BYTES ? OTHER_KIND : refused;
        }

        boolean hasPlace(int i) {
            return i >= 0 && i < length;
        }

        boolean hasPlaces(int i, int n) {
            return i >= 0 && n >= 0 && i <= length && n <= length - i;
        }

        void set(int i, long v) {
            if (hasPlace(i)) {
                elements[i] = lowestBits(v);
            }
        }

        private long lowestBits(long v) {
            switch (sort) {
                case BYTES:
                    return (byte) v;
                case SHORTS:
                    return (short) v;
                case INTS:
                    return (int) v;
                case LONGS:
                    return v;
                default:
                    return v != 0 ? 1 : 0;
            }
        }

        int byteAt(int i) {
            return hasPlace(i) ? (int) elements[i] : 0;
        }

        void giveMix(int[] into) {
            Arrays.fill(into, 0);
            for (int thing = 0; thing < THING_KINDS && hasPlace(thing); thing++) {
                int much = byteAt(thing);
                if (much < 0 || much > MOST_OF_A_THING) {
                    break;
                }
                into[thing] = much;
            }
        }

        /** Whether a soup stands in the ROW from a place on; it is laid from the same place on then. */
        boolean giveSoup(int from, int[] into) {
            if (!hasPlaces(from, TASTE_KINDS) || from > into.length - TASTE_KINDS) {
                return false;
            }
            for (int at = from; at < from + TASTE_KINDS; at++) {
                int taste = byteAt(at);
                if (taste < 0 || taste > MOST_IN_SOUP) {
                    return false;
                }
                into[at] = taste;
            }
            return true;
        }
    }
}
