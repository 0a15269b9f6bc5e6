import java.util.ArrayDeque;
import java.util.ArrayList;
import java.util.Arrays;
import java.util.Comparator;
import java.util.HashMap;
import java.util.List;
import java.util.Map;
import java.util.Random;

/**
 * Runs of 512 calls by chance, each answer against a model that is written another way: whole lists of what there is to
 * choose from, sorted, and the host's own objects and exceptions where the class counts by hand.
 */
public final class ModelTest {
    private static int checks = 0, wrong = 0;

    public static void main(String[] args) {
        for (int run = 0; run < 600; run++) {
            oneRun(run);
        }
        System.out.println(checks + " checks, " + wrong + " wrong");
        if (wrong != 0) {
            System.exit(1);
        }
    }

    private static void oneRun(int run) {
        Random random = new Random(run);
        SoupCourt x = new SoupCourt();
        Model y = new Model();
        List<String> told = new ArrayList<>();
        Caller caller = new Caller(random, run % 4);
        for (int n = 0; n < 512; n++) {
            String call = caller.next();
            int[] a = caller.a;
            long v = caller.v;
            long got;
            try {
                got = ask(x, call, a, v);
            } catch (RuntimeException thrown) {
                got = 777777777;
                System.out.println(thrown);
            }
            long want = y.ask(call, a, v);
            told.add(call + Arrays.toString(a) + (call.equals("put") ? v : "") + " -> " + got);
            checks++;
            if (got != want) {
                if (wrong++ < 5) {
                    System.out.println("run " + run + ": " + told.get(told.size() - 1) + ", due is " + want);
                    for (String line : told.subList(Math.max(0, told.size() - 12), told.size())) {
                        System.out.println("    " + line);
                    }
                }
                return;
            }
        }
    }

    private static long ask(SoupCourt x, String call, int[] a, long v) {
        switch (call) {
            case "house": return x.house();
            case "nose": return x.nose(a[0]);
            case "things": return x.things(a[0], a[1], a[2]);
            case "mend": return x.mend(a[0], a[1], a[2]);
            case "of": return x.of(a[0], a[1]);
            case "feed": return x.feed(a[0]);
            case "law": return x.law();
            case "taste": return x.taste(a[0], a[1], a[2]);
            case "best": return x.best(a[0], a[1]);
            case "nearest": return x.nearest(a[0], a[1], a[2]);
            case "apart": return x.apart(a[0], a[1]);
            case "jury": return x.jury(a[0], a[1]);
            case "inHouse": return x.inHouse(a[0], a[1], a[2]);
            case "lent": return x.lent(a[0], a[1]);
            case "whoCould": return x.whoCould(a[0]);
            case "fires": return x.fires(a[0], a[1], a[2]);
            case "byTurns": return x.byTurns(a[0], a[1], a[2]);
            case "drawn": return x.drawn(a[0], a[1], a[2], a[3]);
            case "fact": return x.fact(a[0], a[1]);
            case "pot": return x.pot(a[0], a[1]);
            case "minute": return x.minute();
            case "potOf": return x.potOf(a[0]);
            case "spoon": return x.spoon(a[0], a[1]);
            case "led": return x.led(a[0]);
            case "image": return x.image();
            case "back": return x.back();
            case "undo": return x.undo();
            case "redo": return x.redo();
            case "body": return x.body(a[0]);
            case "act": return x.act(a[0], a[1], a[2]);
            case "trace": return x.trace(a[0]);
            case "keep": return x.keep(a[0], a[1]);
            case "row": return x.row(a[0], a[1], a[2]);
            case "put": return x.put(a[0], a[1], v);
            case "element": return x.element(a[0], a[1]);
            case "shift": return x.shift(a[0], a[1], a[2], a[3], a[4]);
            case "taken": return x.taken(a[0], a[1]);
            default: return x.count(a[0]);
        }
    }

    /** Chooses calls; what it chooses is mostly within bounds, so that runs get somewhere. */
    private static final class Caller {
        private static final String[] LAWS = {
            "s/4+f/3-t/8", "m<3?s/5+1;w-t/10", "(s>9&f>2)*4-i", "t>40?-7;s%7+i*m%5", "s/3-t/7;9", "!m?w;f", "1", "t<20?6;0-t/9",
        };
        private static final String[] CALLS = (
            "house nose things things mend mend mend mend of of law taste taste best nearest apart jury jury inHouse inHouse"
            + " lent whoCould fires byTurns drawn fact fact pot pot minute minute minute potOf potOf spoon spoon led led image back undo undo"
            + " redo redo body act act trace trace keep row put element shift taken count count").split(" ");
        private static final int[] EXTREMES = {
            Integer.MIN_VALUE, Integer.MIN_VALUE + 1, -1000, -101, -100, -11, -10, -2, -1, 60, 61, 99, 100, 1000, Integer.MAX_VALUE - 1, Integer.MAX_VALUE,
        };
        private final Random random;
        private final int mood;
        private final ArrayDeque<Object[]> planned = new ArrayDeque<>();
        int[] a = {};
        long v;

        Caller(Random random, int mood) {
            this.random = random;
            this.mood = mood;
            for (int h = 0; h < 2 + mood; h++) {
                plan("house", 0);
                plan("nose", 0, 1 + random.nextInt(30));
                plan("body", 0, random.nextInt(8));
            }
            for (int i = 0; i < 25; i++) {
                plan("mend", 0, 10 * random.nextInt(8) + random.nextInt(5), 0, random.nextInt(10));
            }
            for (int i = 0; i < 20; i++) {
                plan("mend", 0, 10 * random.nextInt(2 + mood) + random.nextInt(i % 2 == 0 ? 8 : 4), 1, random.nextInt(10));
            }
            planMix(0);
            planSoups(1);
        }

        private void plan(String call, long value, int... args) {
            planned.add(new Object[] {call, value, args});
        }

        String next() {
            if (planned.isEmpty()) {
                choose();
            }
            Object[] call = planned.poll();
            v = (Long) call[1];
            a = (int[]) call[2];
            return (String) call[0];
        }

        private void choose() {
            int pick = random.nextInt(100);
            if (pick < 3) {
                planMix(random.nextInt(3));
            } else if (pick < 6) {
                planSoups(random.nextInt(4));
            } else if (pick < 7) {
                planLaw();
            } else if (pick < 9) {
                plan("feed", 0, random.nextInt(20) == 0 ? some() : "stmfiw0123456789!-()+*/%<=>&|?;".charAt(random.nextInt(31)));
            } else if (pick < 11) {
                planFitting();
            } else {
                planOne(CALLS[random.nextInt(CALLS.length)]);
            }
        }

        private void planMix(int shelf) {
            int n = random.nextInt(11);
            plan("row", 0, shelf, 0, n);
            for (int i = 0; i < n; i++) {
                plan("put", random.nextInt(12) == 0 ? random.nextInt(300) - 150 : random.nextInt(random.nextInt(4) == 0 ? 10 : 3), shelf, i);
            }
        }

        private void planSoups(int shelf) {
            int n = random.nextInt(3) == 0 ? random.nextInt(36) : 5 * (1 + random.nextInt(4));
            int from = random.nextInt(60);
            int range = 1 + random.nextInt(40);
            plan("row", 0, shelf, 0, n);
            for (int i = 0; i < n; i++) {
                plan("put", random.nextInt(50) == 0 ? random.nextInt(300) - 150 : Math.min(99, from + random.nextInt(range)), shelf, i);
            }
        }

        /** A soup that a MIX of small numbers gives, so that inHouse() finds some. */
        private void planFitting() {
            int shelf = random.nextInt(4);
            plan("row", 0, shelf, 0, 5);
            for (int i = 0; i < 5; i++) {
                plan("put", random.nextInt(4) * (random.nextInt(3) == 0 ? 1 : 0), shelf, i);
            }
            plan("inHouse", 0, shelf, 100 * random.nextInt(2) + random.nextInt(2), random.nextInt(2));
            plan("inHouse", 0, shelf, 100 * random.nextInt(2) + random.nextInt(2), 10 + 10 * random.nextInt(2) + random.nextInt(4));
        }

        private void planLaw() {
            String text = LAWS[random.nextInt(LAWS.length)];
            for (char sign : text.toCharArray()) {
                plan("feed", 0, sign);
            }
            plan("law", 0);
        }

        private int some() {
            return EXTREMES[random.nextInt(EXTREMES.length)];
        }

        private int upTo(int most) {
            return random.nextInt(40) == 0 ? some() : random.nextInt(25) == 0 ? most + 1 : random.nextInt(most + 1);
        }

        private int shelf() {
            return random.nextInt(3) == 0 ? upTo(5) : upTo(1);
        }

        private int house() {
            return upTo(1 + mood);
        }

        private void planOne(String call) {
            switch (call) {
                case "nose": plan(call, 0, upTo(50)); break;
                case "things": plan(call, 0, shelf(), random.nextInt(4) == 0 ? upTo(20) : 0, 100 * house() + upTo(20)); break;
                case "mend": case "of": planMend(call); break;
                case "taste": plan(call, 0, shelf(), upTo(60), upTo(5)); break;
                case "best": plan(call, 0, 10 * shelf() + shelf(), upTo(1)); break;
                case "nearest": plan(call, 0, shelf(), 100 * house() + upTo(10), upTo(4) - 1); break;
                case "apart": plan(call, 0, 10 * shelf() + shelf(), house()); break;
                case "jury": plan(call, 0, random.nextInt(4), upTo(1)); break;
                case "inHouse": plan(call, 0, shelf(), 100 * house() + upTo(10), random.nextInt(2) == 0 ? upTo(1) : 10 + 10 * upTo(1) + upTo(3)); break;
                case "lent": case "pot": case "spoon": plan(call, 0, shelf(), house()); break;
                case "whoCould": plan(call, 0, shelf()); break;
                case "fires": plan(call, 0, shelf(), 1 + upTo(2), upTo(9) - 1); break;
                case "byTurns": plan(call, 0, 10 * shelf() + shelf(), 1 + upTo(2), upTo(1)); break;
                case "drawn": plan(call, 0, random.nextInt(), 100 * upTo(random.nextBoolean() ? 30 : 3) + upTo(random.nextBoolean() ? 40 : 4), shelf(), upTo(5)); break;
                case "fact": planFact(); break;
                case "potOf": plan(call, 0, upTo(6)); break;
                case "led": plan(call, 0, upTo(4)); break;
                case "body": plan(call, 0, upTo(7)); break;
                case "act": plan(call, 0, upTo(8), upTo(3), random.nextInt(4) == 0 ? random.nextInt() : upTo(9)); break;
                case "trace": plan(call, 0, upTo(14)); break;
                case "keep": plan(call, 0, 2 + upTo(3), upTo(4) - 1); break;
                case "row": plan(call, 0, 2 + upTo(3), upTo(4), upTo(60)); break;
                case "put": plan(call, random.nextBoolean() ? random.nextLong() : random.nextInt(100), upTo(5), upTo(9)); break;
                case "element": plan(call, 0, upTo(5), upTo(9)); break;
                case "shift": plan(call, 0, upTo(5), upTo(6), upTo(5), upTo(6), upTo(6)); break;
                case "taken": plan(call, 0, upTo(5), upTo(7)); break;
                case "count": plan(call, 0, upTo(5)); break;
                default: plan(call, 0); break;
            }
        }

        private void planMend(String call) {
            int what = upTo(4);
            int number = what == 0 ? 10 * upTo(7) + upTo(4) : what == 1 ? 10 * house() + upTo(7) : what == 4 ? random.nextInt(9) / 8 : house();
            plan(call, 0, number, what, what == 2 ? upTo(50) : what == 3 ? upTo(31) : upTo(9));
        }

        private void planFact() {
            int kind = upTo(3);
            int other = kind == 2 ? house() : random.nextInt(9) == 0 ? house() : 0;
            plan("fact", 0, kind, 100 * house() + 10 * upTo(7) + other);
        }
    }

    // ---- the model

    private static final class Soup {
        final int[] things = new int[8];
        int[] tastes = new int[5];
        int minutes;

        Soup copy() {
            Soup other = new Soup();
            System.arraycopy(things, 0, other.things, 0, 8);
            other.tastes = tastes.clone();
            other.minutes = minutes;
            return other;
        }

        int far(int[] soup) {
            int far = 0;
            for (int i = 0; i < 5; i++) {
                far += Math.abs(soup[i] - tastes[i]);
            }
            return far;
        }
    }

    private static class Bad extends RuntimeException {
        private static final long serialVersionUID = 1;
        final int code;

        Bad(int code) {
            super(null, null, false, false);
            this.code = code;
        }
    }

    private static class Ladle {
        final Model in;
        final int n;

        Ladle(Model in, int n) {
            this.in = in;
            this.n = n;
        }

        int kind() { return 0; }
        int boils(int x) { in.ran(1); return x + n; }
        int tastes(int x) { in.ran(10); return boils(x) * 2; }
        int swears(int x) { in.ran(11); return x ^ n; }
        int tells(int x) { in.ran(2); return tastes(x) - swears(1); }
    }

    private static class Bone extends Ladle {
        Bone(Model in, int n) { super(in, n); }
        int kind() { return 1; }
        int boils(int x) { in.ran(20); return super.boils(x) + 3; }
    }

    private static class Leek extends Ladle {
        Leek(Model in, int n) { super(in, n); }
        int kind() { return 2; }
        int tastes(int x) { in.ran(30); return -super.tastes(x); }
    }

    private static class Arson extends Leek {
        Arson(Model in, int n) { super(in, n); }
        int kind() { return 3; }
        int swears(int x) { in.ran(40); return super.swears(x) * 3; }
        int tastes(int x) { in.ran(41); return super.tastes(x + 1); }
    }

    private static class Widow extends Bone {
        Widow(Model in, int n) { super(in, n); }
        int kind() { return 4; }
        int swears(int x) { in.ran(50); return super.swears(x) - boils(2); }
    }

    private static class Forger extends Arson {
        Forger(Model in, int n) { super(in, n); }
        int kind() { return 5; }
        int tells(int x) { in.ran(60); return super.tells(x) ^ 5; }
    }

    private static class Bread extends Ladle {
        Bread(Model in, int n) { super(in, n); }
        int kind() { return 6; }
        int boils(int x) { in.ran(70); return super.boils(x) * 2; }
    }

    private static class Water extends Widow {
        Water(Model in, int n) { super(in, n); }
        int kind() { return 7; }
        int tastes(int x) { in.ran(80); return super.tastes(x) + swears(2); }
        int tells(int x) { in.ran(81); return super.tells(x) - 1; }
    }

    private static final Class<?>[] KINDS = {Ladle.class, Bone.class, Leek.class, Arson.class, Widow.class, Forger.class, Bread.class, Water.class};

    private static final class Model {
        final Map<String, Integer> numbers = new HashMap<>();
        int houses, noses;
        String tape = "", text;
        final Object[] shelves = new Object[6];
        Soup pot;
        int[] led = new int[5];
        Object[] image;
        final ArrayList<Object[]> done = new ArrayList<>(), undone = new ArrayList<>();
        final List<Ladle> ladles = new ArrayList<>();
        final List<Integer> trace = new ArrayList<>();

        void ran(int body) {
            trace.add(body);
        }

        long ask(String call, int[] a, long v) {
            try {
                return answer(call, a, v);
            } catch (Bad bad) {
                return call.equals("element") ? Long.MIN_VALUE : bad.code;
            }
        }

        static void must(boolean holds, int code) {
            if (!holds) {
                throw new Bad(code);
            }
        }

        static void bad(boolean is) {
            must(!is, -1);
        }

        int get(int what, int number) {
            return numbers.getOrDefault(what + "/" + number, what == 3 ? 31 : what == 4 ? 5 : 0);
        }

        void set(int what, int number, int v) {
            numbers.put(what + "/" + number, v);
        }

        int has(int house, int thing) {
            return get(1, 10 * house + thing);
        }

        boolean in(int v, int from, int to) {
            return from <= v && v <= to;
        }

        long answer(String call, int[] a, long v) {
            switch (call) {
                case "house":
                    must(houses < 6, -3);
                    return houses++;
                case "nose":
                    bad(!in(a[0], 1, 50));
                    must(noses < 8, -3);
                    set(2, noses, a[0]);
                    return noses++;
                case "things": return things(a[0], a[1], a[2]);
                case "mend":
                case "of": return mendOf(call, a[0], a[1], a[2]);
                case "feed":
                    bad(!in(a[0], 0, 255));
                    must(tape.length() < 120, -3);
                    tape += (char) a[0];
                    return tape.length();
                case "law": return law();
                case "taste": return taste(a[0], a[1], a[2]);
                case "best": return best(a[0], a[1]);
                case "nearest":
                case "inHouse": return search(call, a[0], a[1], a[2]);
                case "apart": return apart(a[0], a[1]);
                case "jury": return jury(a[0], a[1]);
                case "lent": return lent(a[0], a[1]);
                case "whoCould": return whoCould(a[0]);
                case "fires": return fires(a[0], a[1], a[2]);
                case "byTurns": return byTurns(a[0], a[1], a[2]);
                case "drawn": return drawn(a[0], a[1], a[2], a[3]);
                case "fact": return fact(a[0], a[1]);
                case "pot": return putOn(a[0], a[1]);
                case "minute":
                    must(pot != null, -5);
                    minute(pot, get(4, 0));
                    led[2]++;
                    return pot.minutes;
                case "potOf":
                    bad(!in(a[0], 0, 6));
                    must(pot != null, -5);
                    return a[0] < 5 ? pot.tastes[a[0]] : a[0] == 5 ? pot.minutes : Arrays.stream(pot.things).sum();
                case "spoon": return spoon(a[0], a[1]);
                case "led":
                    bad(!in(a[0], 0, 4));
                    return led[a[0]];
                default: return answerMore(call, a, v);
            }
        }

        long answerMore(String call, int[] a, long v) {
            switch (call) {
                case "image":
                    image = new Object[] {houses, new HashMap<>(numbers), pot == null ? null : pot.copy(), led.clone()};
                    return led[2];
                case "back": return back();
                case "undo": return move(done, undone, 2);
                case "redo": return move(undone, done, 3);
                case "body":
                    bad(!in(a[0], 0, 7));
                    must(ladles.size() < 50, -3);
                    ladles.add(make(a[0], ladles.size()));
                    return ladles.size() - 1;
                case "act":
                    trace.clear();
                    if (!in(a[0], 0, ladles.size() - 1) || !in(a[1], 0, 3)) {
                        return 0;
                    }
                    Ladle l = ladles.get(a[0]);
                    return a[1] == 0 ? l.boils(a[2]) : a[1] == 1 ? l.tastes(a[2]) : a[1] == 2 ? l.swears(a[2]) : l.tells(a[2]);
                case "trace":
                    bad(!in(a[0], 0, Math.min(24, trace.size()) - 1));
                    return trace.get(a[0]);
                case "keep":
                    bad(!in(a[0], 0, 5) || !in(a[1], -1, ladles.size() - 1));
                    shelves[a[0]] = a[1] < 0 ? null : ladles.get(a[1]);
                    return 1;
                case "row": return row(a[0], a[1], a[2]);
                case "put": return put(a[0], a[1], v);
                case "element": return element(a[0], a[1]);
                case "shift": return shift(a[0], a[1], a[2], a[3], a[4]);
                case "taken":
                    bad(!in(a[0], 0, 5) || !in(a[1], 0, 7));
                    must(shelves[a[0]] != null, -11);
                    must(KINDS[a[1]].isInstance(shelves[a[0]]), -12);
                    return ((Ladle) shelves[a[0]]).kind();
                default:
                    bad(!in(a[0], 0, 5));
                    return new int[] {houses, noses, tape.length(), done.size(), ladles.size(), trace.size()}[a[0]];
            }
        }

        Ladle make(int kind, int n) {
            switch (kind) {
                case 0: return new Ladle(this, n);
                case 1: return new Bone(this, n);
                case 2: return new Leek(this, n);
                case 3: return new Arson(this, n);
                case 4: return new Widow(this, n);
                case 5: return new Forger(this, n);
                case 6: return new Bread(this, n);
                default: return new Water(this, n);
            }
        }

        int things(int shelf, int i, int hn) {
            bad(!in(shelf, 0, 5) || hn < 0 || hn / 100 >= houses || !in(hn % 100, 1, 20));
            if (shelves[shelf] == null) {
                return 0;
            }
            must(shelves[shelf] instanceof byte[], -12);
            byte[] row = (byte[]) shelves[shelf];
            int n = 0;
            try {
                for (; n < hn % 100; n++) {
                    int thing = row[i + 2 * n];
                    int much = row[i + 2 * n + 1];
                    if (!in(thing, 0, 7) || !in(much, 0, 9)) {
                        return n;
                    }
                    set(1, 10 * (hn / 100) + thing, much);
                }
            } catch (ArrayIndexOutOfBoundsException ended) {
                return n;
            }
            return n;
        }

        int mendOf(String call, int number, int what, int v) {
            bad(!in(what, 0, 4) || number < 0);
            bad(what == 0 && !(number < 80 && number % 10 < 5));
            bad(what == 1 && !(number / 10 < houses && number % 10 < 8));
            bad((what == 2 || what == 3) && number >= noses);
            bad(what == 4 && number != 0);
            int was = get(what, number);
            if (call.equals("mend")) {
                bad(!in(v, what == 2 ? 1 : 0, new int[] {9, 9, 50, 31, 9}[what]));
                if (v != was) {
                    set(what, number, v);
                    done.add(new Object[] {what, number, was, v});
                    undone.clear();
                    if (done.size() > 40) {
                        done.remove(0);
                    }
                }
            }
            return was;
        }

        int move(ArrayList<Object[]> from, ArrayList<Object[]> to, int which) {
            must(!from.isEmpty(), -5);
            Object[] change = from.remove(from.size() - 1);
            set((Integer) change[0], (Integer) change[1], (Integer) change[which]);
            to.add(change);
            return from.size();
        }

        @SuppressWarnings("unchecked")
        int back() {
            must(image != null, -5);
            Map<String, Integer> then = (Map<String, Integer>) image[1];
            for (int h = 0; h < (Integer) image[0]; h++) {
                for (int t = 0; t < 8; t++) {
                    set(1, 10 * h + t, then.getOrDefault("1/" + (10 * h + t), 0));
                }
            }
            pot = image[2] == null ? null : ((Soup) image[2]).copy();
            led = ((int[]) image[3]).clone();
            return led[2];
        }

        // THE LAW: read while it is worked out, with an exception at the FAULT

        int at, open;
        int[] names;

        int law() {
            String read = tape;
            tape = "";
            at = 0;
            open = 0;
            names = new int[6];
            try {
                work(read);
            } catch (IllegalStateException fault) {
                return -100 - at;
            }
            text = read;
            return 1;
        }

        char sign(String s) {
            return at < s.length() ? s.charAt(at) : 65535;
        }

        int work(String s) {
            int value = 0;
            boolean counted = false;
            while (true) {
                int e = work(s, 0);
                if (sign(s) == '?') {
                    at++;
                    int second = work(s, 0);
                    if (!counted && e != 0) {
                        value = second;
                        counted = true;
                    }
                } else if (!counted) {
                    value = e;
                    counted = true;
                }
                if (at == s.length()) {
                    return value;
                }
                if (sign(s) != ';') {
                    throw new IllegalStateException();
                }
                at++;
            }
        }

        int work(String s, int level) {
            if (level == 5) {
                return workO(s);
            }
            int value = work(s, level + 1);
            String signs = new String[] {"|", "&", "<=>", "+-", "*/%"}[level];
            for (int n = 0; (level != 2 || n < 1) && signs.indexOf(sign(s)) >= 0; n++) {
                char sign = sign(s);
                at++;
                int b = work(s, level + 1);
                int a = value;
                value = sign == '|' ? (a != 0 || b != 0 ? 1 : 0) : sign == '&' ? (a != 0 && b != 0 ? 1 : 0)
                    : sign == '<' ? (a < b ? 1 : 0) : sign == '=' ? (a == b ? 1 : 0) : sign == '>' ? (a > b ? 1 : 0)
                    : sign == '+' ? a + b : sign == '-' ? a - b : sign == '*' ? a * b : b == 0 ? 0 : sign == '/' ? a / b : a % b;
            }
            return value;
        }

        int workO(String s) {
            char sign = sign(s);
            int value = 0;
            if (Character.isDigit(sign) && sign < 128) {
                for (int n = 0; n < 4 && sign(s) >= '0' && sign(s) <= '9'; n++) {
                    value = 10 * value + sign(s) - '0';
                    at++;
                }
                return value;
            }
            if ("stmfiw".indexOf(sign) >= 0) {
                at++;
                return names["stmfiw".indexOf(sign)];
            }
            if ("(!-".indexOf(sign) < 0 || open == 6) {
                throw new IllegalStateException();
            }
            at++;
            open++;
            value = sign == '(' ? work(s, 0) : workO(s);
            if (sign == '(') {
                if (sign(s) != ')') {
                    throw new IllegalStateException();
                }
                at++;
            }
            open--;
            return sign == '(' ? value : sign == '-' ? -value : value == 0 ? 1 : 0;
        }

        // pots

        void minute(Soup p, int fire) {
            int[] next = new int[5];
            for (int i = 0; i < 5; i++) {
                int s = 0;
                for (int thing = 0; thing < 8; thing++) {
                    s += p.things[thing] * get(0, 10 * thing + i);
                }
                int t = p.tastes[i];
                int by;
                if (text == null) {
                    by = s / 4 - t / 10;
                    if (s > 0) {
                        by += fire / 5;
                    }
                } else {
                    at = 0;
                    open = 0;
                    names = new int[] {s, t, p.minutes, fire, i, Arrays.stream(p.things).sum()};
                    by = work(text);
                }
                next[i] = Math.min(99, Math.max(0, t + Math.min(20, Math.max(-20, by))));
            }
            p.tastes = next;
            p.minutes = Math.min(99, p.minutes + 1);
        }

        Soup cooked(Soup p, int n) {
            for (int m = 0; m < n; m++) {
                minute(p, get(4, 0));
            }
            return p;
        }

        byte[] bytes(int shelf) {
            must(shelves[shelf] != null, -11);
            must(shelves[shelf] instanceof byte[], -12);
            return (byte[]) shelves[shelf];
        }

        Soup mix(int shelf) {
            Soup p = new Soup();
            byte[] row = bytes(shelf);
            for (int i = 0; i < 8 && i < row.length && in(row[i], 0, 9); i++) {
                p.things[i] = row[i];
            }
            return p;
        }

        List<int[]> soups(byte[] row, int most) {
            List<int[]> soups = new ArrayList<>();
            for (int i = 0; i + 5 <= row.length && soups.size() < most; i += 5) {
                int[] soup = {row[i], row[i + 1], row[i + 2], row[i + 3], row[i + 4]};
                if (Arrays.stream(soup).anyMatch(b -> b < 0 || b > 99)) {
                    break;
                }
                soups.add(soup);
            }
            return soups;
        }

        int[] soup(byte[] row) {
            List<int[]> soups = soups(row, 1);
            bad(soups.isEmpty());
            return soups.get(0);
        }

        void twoShelves(int both) {
            bad(both < 0 || both / 10 > 5 || both % 10 > 5);
        }

        int taste(int shelf, int n, int taste) {
            bad(!in(shelf, 0, 5) || !in(n, 0, 60) || !in(taste, 0, 5));
            int[] tastes = cooked(mix(shelf), n).tastes;
            return taste == 5 ? Arrays.stream(tastes).sum() : tastes[taste];
        }

        int best(int ms, int what) {
            twoShelves(ms);
            bad(!in(what, 0, 1));
            Soup p = mix(ms / 10);
            int[] soup = soup(bytes(ms % 10));
            List<int[]> all = new ArrayList<>();
            for (int n = 0; n <= 60; n++) {
                all.add(new int[] {n, p.far(soup)});
                minute(p, get(4, 0));
            }
            all.sort(Comparator.comparingInt((int[] e) -> e[1]).thenComparingInt(e -> e[0]));
            return all.get(0)[what];
        }

        int search(String call, int shelf, int hn, int k) {
            bad(!in(shelf, 0, 5) || hn < 0 || hn / 100 >= houses || hn % 100 > 10);
            boolean near = call.equals("nearest");
            bad(near ? !in(k, -1, 3) : !(in(k, 0, 1) || in(k, 10, 13) || in(k, 20, 23)));
            int[] soup = soup(bytes(shelf));
            int most = near ? 2 : 3;
            List<Soup> all = new ArrayList<>();
            int[] h = new int[4];
            for (int i = 0; i < 4; i++) {
                h[i] = Math.min(most, has(hn / 100, i));
            }
            for (int a = 0; a <= h[0]; a++) {
                for (int b = 0; b <= h[1]; b++) {
                    for (int c = 0; c <= h[2]; c++) {
                        for (int d = 0; d <= h[3]; d++) {
                            Soup p = new Soup();
                            System.arraycopy(new int[] {a, b, c, d}, 0, p.things, 0, 4);
                            all.add(cooked(p, hn % 100));
                        }
                    }
                }
            }
            if (near) {
                all.sort(Comparator.comparingInt((Soup p) -> p.far(soup)).thenComparingInt(p -> Arrays.stream(p.things).sum())
                    .thenComparing(p -> p.things, Arrays::compare));
                return k < 0 ? all.get(0).far(soup) : all.get(0).things[k];
            }
            all.removeIf(p -> !Arrays.equals(p.tastes, soup));
            if (k == 0) {
                return all.size();
            }
            must(!all.isEmpty(), -2);
            if (k == 1) {
                return all.stream().mapToInt(p -> 64 * p.things[0] + 16 * p.things[1] + 4 * p.things[2] + p.things[3]).min().getAsInt();
            }
            return k < 20 ? all.stream().mapToInt(p -> p.things[k - 10]).min().getAsInt() : all.stream().mapToInt(p -> p.things[k - 20]).max().getAsInt();
        }

        boolean tells(int nose, int[] a, int[] b) {
            for (int i = 0; i < 5; i++) {
                if ((get(3, nose) & 1 << i) != 0 && Math.abs(a[i] - b[i]) >= get(2, nose)) {
                    return true;
                }
            }
            return false;
        }

        int apart(int ss, int nose) {
            twoShelves(ss);
            bad(!in(nose, 0, noses - 1));
            byte[] one = bytes(ss / 10);
            byte[] other = bytes(ss % 10);
            return tells(nose, soup(one), soup(other)) ? 1 : 0;
        }

        int jury(int shelf, int what) {
            bad(!in(shelf, 0, 5) || !in(what, 0, 1));
            List<int[]> soups = soups(bytes(shelf), 6);
            List<Integer> juries = new ArrayList<>();
            for (int some = 0; some < 1 << noses; some++) {
                boolean all = true;
                for (int[] a : soups) {
                    for (int[] b : soups) {
                        boolean told = a == b;
                        for (int nose = 0; nose < noses; nose++) {
                            told |= (some >> nose & 1) == 1 && tells(nose, a, b);
                        }
                        all &= told;
                    }
                }
                if (all) {
                    juries.add(some);
                }
            }
            must(!juries.isEmpty(), -2);
            juries.sort(Comparator.comparingInt((Integer some) -> Integer.bitCount(some)).thenComparingInt(some -> some));
            return what == 1 ? juries.get(0) : Integer.bitCount(juries.get(0));
        }

        boolean could(Soup p, int house) {
            boolean could = true;
            for (int i = 0; i < 8; i++) {
                could &= has(house, i) >= p.things[i];
            }
            return could;
        }

        /** One after the other is lent, as long as something lacks. */
        int lent(int shelf, int house) {
            bad(!in(shelf, 0, 5) || !in(house, 0, houses - 1));
            Soup p = mix(shelf);
            int[][] has = new int[houses][8];
            for (int i = 0; i < 8 * houses; i++) {
                has[i / 8][i % 8] = has(i / 8, i % 8);
            }
            int lent = 0;
            for (int thing = 0; thing < 8; thing++) {
                while (has[house][thing] < p.things[thing]) {
                    int by = 0;
                    while (by < houses && (by == house || has[by][thing] == 0)) {
                        by++;
                    }
                    must(by < houses, -2);
                    has[by][thing]--;
                    has[house][thing]++;
                    lent++;
                }
            }
            return lent;
        }

        int whoCould(int shelf) {
            bad(!in(shelf, 0, 5));
            Soup p = mix(shelf);
            int bits = 0;
            for (int house = 0; house < houses; house++) {
                bits += could(p, house) ? 1 << house : 0;
            }
            return bits;
        }

        int fires(int shelf, int k, int j) {
            bad(!in(shelf, 0, 5) || !in(k, 1, 3) || j < -1);
            byte[] row = bytes(shelf);
            int pots = 0;
            while (pots < 8 && pots < row.length && in(row[pots], 1, 60)) {
                pots++;
            }
            must(j < pots, -2);
            int least = 1000;
            String way = "";
            for (int code = 0; code < (int) Math.pow(k, pots); code++) {
                String digits = Integer.toString(code, Math.max(2, k));
                while (digits.length() < pots) {
                    digits = "0" + digits;
                }
                int[] busy = new int[3];
                for (int i = 0; i < pots; i++) {
                    busy[digits.charAt(i) - '0'] += row[i];
                }
                int time = Arrays.stream(busy).max().getAsInt();
                if (time < least) {
                    least = time;
                    way = digits;
                }
            }
            return j < 0 ? least : way.charAt(j) - '0';
        }

        int byTurns(int ms, int n, int what) {
            twoShelves(ms);
            bad(!in(n, 1, 3) || !in(what, 0, 1));
            Soup p = mix(ms / 10);
            return turns(p, soup(bytes(ms % 10)), n, true)[what];
        }

        int[] turns(Soup p, int[] soup, int left, boolean first) {
            if (left == 0) {
                return new int[] {p.far(soup), -1};
            }
            List<int[]> all = new ArrayList<>();
            for (int deed = 0; deed < 5; deed++) {
                if (deed == 4 || p.things[deed] < 9) {
                    Soup next = p.copy();
                    if (deed < 4) {
                        next.things[deed]++;
                    }
                    minute(next, get(4, 0));
                    all.add(new int[] {turns(next, soup, left - 1, !first)[0], deed});
                }
            }
            all.sort(Comparator.comparingInt((int[] e) -> first ? e[0] : -e[0]).thenComparingInt(e -> e[1] == 4 ? -1 : e[1]));
            return all.get(0);
        }

        int drawn(int seed, int nm, int shelf, int taste) {
            bad(nm < 0 || !in(nm / 100, 1, 30) || !in(nm % 100, 1, 40) || !in(shelf, 0, 5) || !in(taste, 0, 5));
            int z = seed;
            int sum = 0;
            for (int term = 0; term < nm / 100; term++) {
                Soup p = mix(shelf);
                for (int m = 0; m < nm % 100; m++) {
                    z = z * 1103515245 + 12345;
                    minute(p, (z >>> 8) % 10);
                }
                sum += taste == 5 ? Arrays.stream(p.tastes).sum() : p.tastes[taste];
            }
            return sum;
        }

        int fact(int kind, int ht) {
            bad(!in(kind, 0, 3) || ht < 0 || ht / 100 >= houses || ht / 10 % 10 > 7);
            int house = ht / 100;
            int thing = ht / 10 % 10;
            int other = ht % 10;
            bad(kind == 2 ? other >= houses || other == house : other != 0);
            int has = has(house, thing);
            must(kind == 3 || has > 0, -5);
            must(kind != 3 || has < 9, -5);
            must(kind != 2 || has(other, thing) < 9, -5);
            int now = kind == 3 ? has + 1 : kind == 1 ? 0 : has - 1;
            set(1, 10 * house + thing, now);
            if (kind == 2) {
                set(1, 10 * other + thing, has(other, thing) + 1);
            }
            led[0]++;
            return now;
        }

        int putOn(int shelf, int house) {
            bad(!in(shelf, 0, 5) || !in(house, 0, houses - 1));
            Soup p = mix(shelf);
            must(could(p, house), -5);
            for (int i = 0; i < 8; i++) {
                set(1, 10 * house + i, has(house, i) - p.things[i]);
            }
            pot = p;
            led[1]++;
            return Arrays.stream(p.things).sum();
        }

        int spoon(int shelf, int nose) {
            bad(!in(shelf, 0, 5) || !in(nose, 0, noses - 1));
            int[] soup = soup(bytes(shelf));
            must(pot != null, -5);
            int tells = tells(nose, pot.tastes, soup) ? 1 : 0;
            led[3]++;
            led[4] += tells;
            return tells;
        }

        // shelves: the host's own arrays

        int row(int shelf, int sort, int n) {
            bad(!in(shelf, 0, 5) || !in(sort, 0, 4) || n > 60);
            try {
                shelves[shelf] = sort == 0 ? new byte[n] : sort == 1 ? new short[n] : sort == 2 ? new int[n] : sort == 3 ? new long[n] : (Object) new boolean[n];
            } catch (NegativeArraySizeException size) {
                return -14;
            }
            return 1;
        }

        Object aRow(int shelf, int i) {
            bad(!in(shelf, 0, 5));
            must(shelves[shelf] != null, -11);
            must(!(shelves[shelf] instanceof Ladle), -12);
            must(in(i, 0, java.lang.reflect.Array.getLength(shelves[shelf]) - 1), -13);
            return shelves[shelf];
        }

        int put(int shelf, int i, long v) {
            Object row = aRow(shelf, i);
            if (row instanceof byte[]) {
                ((byte[]) row)[i] = (byte) v;
            } else if (row instanceof short[]) {
                ((short[]) row)[i] = (short) v;
            } else if (row instanceof int[]) {
                ((int[]) row)[i] = (int) v;
            } else if (row instanceof long[]) {
                ((long[]) row)[i] = v;
            } else {
                ((boolean[]) row)[i] = v != 0;
            }
            return 1;
        }

        long element(int shelf, int i) {
            Object row = aRow(shelf, i);
            return row instanceof boolean[] ? ((boolean[]) row)[i] ? 1 : 0 : java.lang.reflect.Array.getLong(row, i);
        }

        int shift(int shelf, int i, int other, int j, int n) {
            bad(!in(shelf, 0, 5) || !in(other, 0, 5));
            try {
                System.arraycopy(shelves[shelf], i, shelves[other], j, n);
                return n;
            } catch (NullPointerException nothing) {
                return -11;
            } catch (ArrayStoreException unlike) {
                return -12;
            } catch (IndexOutOfBoundsException place) {
                return -13;
            }
        }
    }
}
