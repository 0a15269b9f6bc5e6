/** Each promise of the document by itself: ordinary inputs, the edges that it names, wrong inputs. */
public final class PromiseTest {
    private static final int BAD = -1, NOT = -2, FULL = -3, STATE = -5;
    private static final int LOW = Integer.MIN_VALUE, HIGH = Integer.MAX_VALUE;
    private static int checks = 0, wrong = 0;

    private static void due(String what, long got, long want) {
        checks++;
        if (got != want) {
            wrong++;
            System.out.println(what + ": answered " + got + ", due is " + want);
        }
    }

    public static void main(String[] args) {
        p01aNewObject();
        p02house();
        p03nose();
        p04things();
        p05mend();
        p06of();
        p07feed();
        p08law();
        p09taste();
        p10best();
        p11nearest();
        p12apart();
        p13jury();
        p14inHouse();
        p15lent();
        p16whoCould();
        p17fires();
        p18byTurns();
        p19drawn();
        p20fact();
        p21pot();
        p22minute();
        p23potOf();
        p24spoon();
        p25led();
        p26image();
        p27back();
        p28undo();
        p29redo();
        p30body();
        p31act();
        p32trace();
        p33keep();
        p34row();
        p35put();
        p36element();
        p37shift();
        p38taken();
        p39count();
        System.out.println(checks + " checks, " + wrong + " wrong");
        if (wrong != 0) {
            System.exit(1);
        }
    }

    // ---- helpers

    private static void bytes(SoupCourt x, int shelf, int... values) {
        due("row", x.row(shelf, 0, values.length), 1);
        for (int i = 0; i < values.length; i++) {
            due("put", x.put(shelf, i, values[i]), 1);
        }
    }

    private static int lawOf(SoupCourt x, String text) {
        for (int i = 0; i < text.length(); i++) {
            x.feed(text.charAt(i));
        }
        return x.law();
    }

    /** SHELF 4 holds shorts, 5 a LADLE; 3 holds nothing. */
    private static void wrongShelves(SoupCourt x) {
        x.body(0);
        x.row(4, 1, 20);
        x.keep(5, 0);
    }

    /** THING t has a STRENGTH in TASTE t alone: 4, 8, 3, 4 for t 0 .. 3. */
    private static SoupCourt plain() {
        SoupCourt x = new SoupCourt();
        for (int t = 0; t < 4; t++) {
            x.mend(11 * t, 0, t < 2 ? 4 * (t + 1) : t + 1);
        }
        return x;
    }

    // ---- houses, noses

    private static void p01aNewObject() {
        SoupCourt x = new SoupCourt();
        for (int what = 0; what <= 5; what++) {
            due("new count " + what, x.count(what), 0);
        }
        due("new fire", x.of(0, 4), 5);
        for (int thing = 0; thing < 8; thing++) {
            for (int taste = 0; taste < 5; taste++) {
                due("new strength", x.of(10 * thing + taste, 0), 0);
            }
        }
        for (int shelf = 0; shelf < 6; shelf++) {
            due("new shelf", x.put(shelf, 0, 1), -11);
        }
        for (int what = 0; what < 5; what++) {
            due("new led", x.led(what), 0);
        }
        due("new pot", x.potOf(0), STATE);
        due("new back", x.back(), STATE);
        due("new undo", x.undo(), STATE);
        due("new redo", x.redo(), STATE);
        due("new trace", x.trace(0), BAD);
        due("BAD", SoupCourt.BAD, -1);
        due("NOT", SoupCourt.NOT, -2);
        due("FULL", SoupCourt.FULL, -3);
        due("STATE", SoupCourt.STATE, -5);
        due("VOID", SoupCourt.VOID, -2000000000);
        SoupCourt y = new SoupCourt();
        x.house();
        due("objects stand alone", y.count(0), 0);
    }

    private static void p02house() {
        SoupCourt x = new SoupCourt();
        for (int h = 0; h < 6; h++) {
            due("house", x.house(), h);
            for (int thing = 0; thing < 8; thing++) {
                due("its larder is empty", x.of(10 * h + thing, 1), 0);
            }
        }
        due("house 7th", x.house(), FULL);
        due("houses", x.count(0), 6);
    }

    private static void p03nose() {
        SoupCourt x = new SoupCourt();
        due("nose 0", x.nose(0), BAD);
        due("nose 51", x.nose(51), BAD);
        due("nose low", x.nose(LOW), BAD);
        due("nose high", x.nose(HIGH), BAD);
        due("none came", x.count(1), 0);
        int[] keen = {1, 50, 5, 7, 8, 9, 10, 11};
        for (int i = 0; i < 8; i++) {
            due("nose", x.nose(keen[i]), i);
            due("its keen", x.of(i, 2), keen[i]);
            due("its which", x.of(i, 3), 31);
        }
        due("nose 9th", x.nose(5), FULL);
        due("BAD comes first", x.nose(0), BAD);
        due("noses", x.count(1), 8);
    }

    private static void p04things() {
        SoupCourt x = new SoupCourt();
        wrongShelves(x);
        bytes(x, 0, 0, 3, 7, 9, 1, 0, 2, 5, 3);
        due("no such house", x.things(0, 0, 1), BAD);
        x.house();
        x.house();
        due("n 0", x.things(0, 0, 0), BAD);
        due("n 21", x.things(0, 0, 21), BAD);
        due("n 0 of house 1", x.things(0, 0, 100), BAD);
        due("house 2", x.things(0, 0, 201), BAD);
        due("hn below 0", x.things(0, 0, -1), BAD);
        due("hn -99", x.things(0, 0, -99), BAD);
        due("hn low", x.things(0, 0, LOW), BAD);
        due("hn high", x.things(0, 0, HIGH), BAD);
        due("shelf -1", x.things(-1, 0, 1), BAD);
        due("shelf 6", x.things(6, 0, 1), BAD);
        due("BAD ahead of -12", x.things(4, 0, 0), BAD);
        due("nothing there", x.things(3, 0, 1), 0);
        due("shorts", x.things(4, 0, 1), -12);
        due("shorts, place below 0", x.things(4, -1, 1), -12);
        due("a ladle", x.things(5, 0, 1), -12);
        due("place below 0", x.things(0, -1, 20), 0);
        due("place -2", x.things(0, -2, 20), 0);
        due("place low", x.things(0, LOW, 20), 0);
        due("place high", x.things(0, HIGH, 20), 0);
        due("place at the end", x.things(0, 9, 20), 0);
        due("within a two", x.things(0, 8, 20), 0);
        due("still empty", x.of(0, 1) + x.of(7, 1), 0);
        due("one", x.things(0, 0, 1), 1);
        due("has 0", x.of(0, 1), 3);
        due("not 7", x.of(7, 1), 0);
        due("all", x.things(0, 0, 120), 4);
        due("1 has 0", x.of(10, 1), 3);
        due("1 has 7", x.of(17, 1), 9);
        due("1 has 2", x.of(12, 1), 5);
        due("from place 2 on, two", x.things(0, 2, 2), 2);
        due("has 7", x.of(7, 1), 9);
        due("2 not yet", x.of(2, 1), 0);
        due("no changes", x.count(3), 0);
        bytes(x, 1, 4, 6, 8, 1, 5, 5);
        due("no such thing", x.things(1, 0, 20), 1);
        due("has 4", x.of(4, 1), 6);
        due("not 5", x.of(5, 1), 0);
        bytes(x, 1, 4, 10, 5, 5);
        due("too much", x.things(1, 0, 20), 0);
        bytes(x, 1, 4, -1, 5, 5);
        due("below 0", x.things(1, 0, 20), 0);
        bytes(x, 1, -1, 1);
        due("thing below 0", x.things(1, 0, 20), 0);
        due("has 4 still", x.of(4, 1), 6);
        int[] many = new int[60];
        for (int i = 0; i < 60; i += 2) {
            many[i] = i / 2 % 8;
            many[i + 1] = i / 2 % 10;
        }
        bytes(x, 2, many);
        due("twenty", x.things(2, 0, 20), 20);
        due("thing 3 by the 19th", x.of(3, 1), 9);
        due("thing 4 by the 12th", x.of(4, 1), 2);
        due("from 58 on", x.things(2, 58, 20), 1);
        due("from 59 on", x.things(2, 59, 20), 0);
        // no CHANGE: one that was undone may still be done again
        x.mend(0, 1, 4);
        x.undo();
        due("things", x.things(0, 0, 1), 1);
        due("done again", x.redo(), 0);
        due("has 4 again", x.of(0, 1), 4);
    }

    private static void p05mend() {
        SoupCourt x = new SoupCourt();
        x.house();
        x.nose(9);
        due("strength", x.mend(74, 0, 9), 0);
        due("strength was", x.mend(74, 0, 2), 9);
        due("taste 5", x.mend(75, 0, 1), BAD);
        due("thing 8", x.mend(80, 0, 1), BAD);
        due("number below 0", x.mend(-1, 0, 1), BAD);
        due("number -10", x.mend(-10, 0, 1), BAD);
        due("strength 10", x.mend(0, 0, 10), BAD);
        due("strength -1", x.mend(0, 0, -1), BAD);
        due("has", x.mend(7, 1, 9), 0);
        due("has was", x.mend(7, 1, 0), 9);
        due("has thing 8", x.mend(8, 1, 0), BAD);
        due("has house 1", x.mend(10, 1, 0), BAD);
        due("has 10", x.mend(0, 1, 10), BAD);
        due("has -1", x.mend(0, 1, -1), BAD);
        due("keen", x.mend(0, 2, 50), 9);
        due("keen 1", x.mend(0, 2, 1), 50);
        due("keen 0", x.mend(0, 2, 0), BAD);
        due("keen 51", x.mend(0, 2, 51), BAD);
        due("keen of no nose", x.mend(1, 2, 5), BAD);
        due("keen below 0", x.mend(-1, 2, 5), BAD);
        due("which", x.mend(0, 3, 0), 31);
        due("which 31", x.mend(0, 3, 31), 0);
        due("which 32", x.mend(0, 3, 32), BAD);
        due("which -1", x.mend(0, 3, -1), BAD);
        due("which of no nose", x.mend(1, 3, 5), BAD);
        due("fire", x.mend(0, 4, 9), 5);
        due("fire 0", x.mend(0, 4, 0), 9);
        due("fire 10", x.mend(0, 4, 10), BAD);
        due("fire -1", x.mend(0, 4, -1), BAD);
        due("fire 1's number", x.mend(1, 4, 5), BAD);
        due("fire -1's number", x.mend(-1, 4, 5), BAD);
        due("what 5", x.mend(0, 5, 1), BAD);
        due("what -1", x.mend(0, -1, 1), BAD);
        due("what low", x.mend(0, LOW, 1), BAD);
        due("number high", x.mend(HIGH, 0, 1), BAD);
        due("number low", x.mend(LOW, 1, 1), BAD);
        due("changes", x.count(3), 10);
        due("the same is none", x.mend(0, 4, 0), 0);
        due("changes still", x.count(3), 10);
    }

    private static void p06of() {
        SoupCourt x = new SoupCourt();
        due("no house", x.of(0, 1), BAD);
        due("no nose", x.of(0, 2), BAD);
        due("no nose", x.of(0, 3), BAD);
        x.house();
        x.house();
        x.nose(12);
        x.mend(34, 0, 6);
        x.mend(13, 1, 4);
        x.mend(0, 3, 17);
        x.mend(0, 4, 8);
        due("strength", x.of(34, 0), 6);
        due("another strength", x.of(43, 0), 0);
        due("has", x.of(13, 1), 4);
        due("has of another", x.of(3, 1), 0);
        due("keen", x.of(0, 2), 12);
        due("which", x.of(0, 3), 17);
        due("fire", x.of(0, 4), 8);
        due("what 5", x.of(0, 5), BAD);
        due("what -1", x.of(0, -1), BAD);
        due("taste 5", x.of(5, 0), BAD);
        due("thing 8", x.of(80, 0), BAD);
        due("house 2", x.of(20, 1), BAD);
        due("thing 8 of a house", x.of(18, 1), BAD);
        due("nose 1", x.of(1, 2), BAD);
        due("nose -1", x.of(-1, 3), BAD);
        due("fire 1", x.of(1, 4), BAD);
        due("number low", x.of(LOW, 0), BAD);
        due("number high", x.of(HIGH, 1), BAD);
        due("no changes", x.count(3), 4);
    }

    private static void p07feed() {
        SoupCourt x = new SoupCourt();
        due("-1", x.feed(-1), BAD);
        due("256", x.feed(256), BAD);
        due("low", x.feed(LOW), BAD);
        due("0", x.feed(0), 1);
        due("255", x.feed(255), 2);
        for (int i = 3; i <= 120; i++) {
            due("feed", x.feed('s'), i);
        }
        due("the 121st", x.feed('s'), FULL);
        due("BAD ahead of FULL", x.feed(256), BAD);
        due("bytes", x.count(2), 120);
        due("0 is no sign", x.law(), -100);
        due("empty then", x.count(2), 0);
        due("room again", x.feed('s'), 1);
    }

    private static void p08law() {
        SoupCourt x = new SoupCourt();
        due("an empty tape", x.law(), -100);
        due("a text", lawOf(x, "s"), 1);
        due("empty then", x.count(2), 0);
        String[][] faults = {
            {"+", "0"}, {"s+", "2"}, {"s t", "1"}, {"s;", "2"}, {";s", "0"}, {"s;;s", "2"}, {"s?", "2"}, {"?s", "0"},
            {"s?t?m", "3"}, {"(s?t)", "2"}, {"1<2<3", "3"}, {"1<2=3", "3"}, {"12345", "4"}, {"x", "0"}, {"S", "0"},
            {"(s", "2"}, {"s)", "1"}, {"()", "1"}, {"!", "1"}, {"((((((s))))))", "-"}, {"(((((((s)))))))", "6"},
            {"!!!!!!s", "-"}, {"!!!!!!!s", "6"}, {"------s", "-"}, {"-------s", "6"}, {"s-------s", "-"}, {"s--------s", "8"},
            {"(!-(!-s))", "-"}, {"(!-(!-(s)))", "6"}, {"((((((s)))))+(((((s)))))+!!!!!s)", "-"},
            {"((((((s)))))+(((((s)))))+!!!!!!s)", "30"},
            {"s*+t", "2"}, {"s*-t", "-"}, {"s**t", "2"}, {"s|", "2"}, {"s||t", "2"}, {"s&&t", "2"}, {"ss", "1"}, {"1s", "1"},
            {"s1", "1"}, {"0000", "-"}, {"s=t?m;f>i?w;9", "-"}, {"s==t", "2"}, {"s!t", "1"}, {"2(3)", "1"}, {"s<", "2"},
            {"s ", "1"}, {" s", "0"}, {"s\n", "1"},
        };
        for (String[] fault : faults) {
            due("law " + fault[0], lawOf(x, fault[0]), fault[1].equals("-") ? 1 : -100 - Integer.parseInt(fault[1]));
            due("empty then", x.count(2), 0);
        }
        // a fault leaves THE LAW as it was
        x.row(0, 0, 0);
        due("a law", lawOf(x, "7"), 1);
        due("it grows by it", x.taste(0, 1, 0), 7);
        due("a fault", lawOf(x, "9+"), -102);
        due("it stays", x.taste(0, 1, 0), 7);
        due("another law", lawOf(x, "9"), 1);
        due("it comes", x.taste(0, 1, 0), 9);
        StringBuilder longest = new StringBuilder("1");
        for (int i = 1; i < 119; i += 2) {
            longest.append("+1");
        }
        due("119 bytes", lawOf(x, longest.toString()), 1);
        due("120 bytes", lawOf(x, longest.append("1").toString()), 1);
        due("120 bytes that end early", lawOf(x, longest.deleteCharAt(119).append("+").toString()), -220);
        StringBuilder lines = new StringBuilder();
        for (int i = 0; i < 60; i++) {
            lines.append("0;");
        }
        due("60 lines, and an end too early", lawOf(x, lines.toString()), -220);
        due("60 lines", lawOf(x, lines.deleteCharAt(119).toString()), 1);
        due("the first counts", x.taste(0, 1, 0), 0);
        whatLawsGive(x);
    }

    /** By how much TASTE 0 of an empty pot grows in its first minute: t, m, s, i and w are 0, f is 5. */
    private static void whatLawsGive(SoupCourt x) {
        String[][] laws = {
            {"0", "0"}, {"20", "20"}, {"21", "20"}, {"9999", "20"}, {"-1", "0"}, {"f", "5"}, {"2+3*4", "14"}, {"(2+3)*4", "20"},
            {"9-4-3", "2"}, {"19/4", "4"}, {"19%4", "3"}, {"7/0", "0"}, {"7%0", "0"}, {"5+7/0", "5"}, {"-7/2+9", "6"},
            {"-7%4+9", "6"}, {"100/5/2", "10"}, {"17%10*2", "14"}, {"2*7%4", "2"}, {"3|0", "1"}, {"0|0", "0"}, {"3&5", "1"},
            {"3&0", "0"}, {"2<3", "1"}, {"3<3", "0"}, {"3=3", "1"}, {"3=4", "0"}, {"4>3", "1"}, {"3>3", "0"}, {"!0", "1"},
            {"!7", "0"}, {"!!7", "1"}, {"--7", "7"}, {"-!0+5", "4"}, {"!-1", "0"}, {"1+2<4", "1"}, {"0|1&0", "0"}, {"1|1&0", "1"},
            {"2<3&3<4", "1"}, {"0?9;8", "8"}, {"1?9;8", "9"}, {"0?9", "0"}, {"0?9;0?8", "0"}, {"-1?9", "9"}, {"3;4", "3"},
            {"0?1;0?2;1?3;4", "3"}, {"7?", "fault"}, {"f=5?6;7", "6"}, {"s", "0"}, {"i", "0"}, {"w", "0"}, {"m", "0"}, {"t", "0"},
            {"9999*9999*9999*9999/100000", "fault"}, {"9999*9999*100>0", "1"}, {"9999*9999*30>0", "0"},
            {"0-9999*9999*30>0", "1"}, {"(9999*9999*30)/9999/9999", "-7 held"}, {"3-(5-4)", "2"}, {"10-2*3+1", "5"},
        };
        for (String[] law : laws) {
            int answer = lawOf(x, law[0]);
            if (law[1].equals("fault")) {
                due("law " + law[0], answer < -100 ? 1 : 0, 1);
            } else {
                due("law " + law[0], answer, 1);
                due("by law " + law[0], x.taste(0, 1, 0), law[1].endsWith("held") ? 0 : Integer.parseInt(law[1]));
            }
        }
        // held within -20 .. 20, and the TASTE within 0 .. 99
        due("law", lawOf(x, "m<6?99;0-99"), 1);
        int[] tastes = {0, 20, 40, 60, 80, 99, 99, 79, 59, 39, 19, 0, 0};
        for (int n = 0; n < tastes.length; n++) {
            due("held at minute " + n, x.taste(0, n, 3), tastes[n]);
        }
        // the names
        x.mend(0, 0, 3);
        x.mend(12, 0, 2);
        x.mend(2, 0, 1);
        bytes(x, 1, 2, 4);
        due("law", lawOf(x, "s"), 1);
        due("s of taste 0", x.taste(1, 1, 0), 6);
        due("s of taste 2", x.taste(1, 1, 2), 10);
        due("law", lawOf(x, "w"), 1);
        due("w", x.taste(1, 1, 4), 6);
        due("law", lawOf(x, "i+1"), 1);
        due("i", x.taste(1, 1, 4), 5);
        due("law", lawOf(x, "m"), 1);
        due("m", x.taste(1, 5, 4), 0 + 1 + 2 + 3 + 4);
        due("law", lawOf(x, "t+1"), 1);
        due("t", x.taste(1, 4, 4), 15);
        x.mend(0, 4, 9);
        due("law", lawOf(x, "f"), 1);
        due("f", x.taste(1, 2, 4), 18);
    }

    // ---- pots in thought

    private static void p09taste() {
        SoupCourt x = plain();
        wrongShelves(x);
        bytes(x, 0, 1, 2);
        due("nothing", x.taste(3, 0, 0), -11);
        due("shorts", x.taste(4, 0, 0), -12);
        due("ladle", x.taste(5, 0, 0), -12);
        due("shelf 6", x.taste(6, 0, 0), BAD);
        due("shelf -1", x.taste(-1, 0, 0), BAD);
        due("n -1", x.taste(0, -1, 0), BAD);
        due("n 61", x.taste(0, 61, 0), BAD);
        due("taste -1", x.taste(0, 0, -1), BAD);
        due("taste 6", x.taste(0, 0, 6), BAD);
        due("BAD ahead of -11", x.taste(3, 61, 0), BAD);
        due("BAD ahead of -12", x.taste(4, 0, 6), BAD);
        // s is 4 and 16; fire 5: by 2 and by 5 in the first minute
        due("at once", x.taste(0, 0, 5), 0);
        due("taste 0", x.taste(0, 1, 0), 2);
        due("taste 1", x.taste(0, 1, 1), 5);
        due("taste 2", x.taste(0, 1, 2), 0);
        due("all", x.taste(0, 1, 5), 7);
        due("taste 1 behind 2", x.taste(0, 2, 1), 10);
        due("taste 1 behind 3", x.taste(0, 3, 1), 14);
        due("taste 1 behind 60", x.taste(0, 60, 1), 50);
        due("taste 0 behind 60", x.taste(0, 60, 0), 20);
        x.mend(0, 4, 9);
        due("fire 9", x.taste(0, 1, 0), 2);
        x.mend(0, 4, 4);
        due("fire 4", x.taste(0, 1, 0), 1);
        x.mend(0, 4, 5);
        // a MIX: 8 at most, it ends with what is below 0 or above 9, what lacks is 0
        bytes(x, 1, 1, -1, 9);
        due("ends below 0", x.taste(1, 1, 5), 2);
        bytes(x, 1, 1, 10, 9);
        due("ends above 9", x.taste(1, 1, 5), 2);
        x.row(1, 0, 0);
        due("all lacks", x.taste(1, 60, 5), 0);
        due("law", lawOf(x, "w"), 1);
        bytes(x, 1, 1, 1, 1, 1, 1, 1, 1, 1, 9);
        due("eight at most", x.taste(1, 1, 0), 8);
        bytes(x, 1, 9, 9, 9, 0, 0, 0, 0, -9);
        due("growth is held", x.taste(1, 1, 0), 20);
        due("taste is held", x.taste(1, 60, 5), 495);
    }

    private static void p10best() {
        SoupCourt x = plain();
        wrongShelves(x);
        bytes(x, 0, 1, 2);
        bytes(x, 1, 4, 10, 0, 0, 0);
        due("which", x.best(1, 0), 2);
        due("how far", x.best(1, 1), 0);
        bytes(x, 1, 5, 13, 0, 0, 7);
        due("which 3", x.best(1, 0), 3);
        due("how far 9", x.best(1, 1), 1 + 1 + 7);
        // 19 and 20 minutes and so on taste alike: the least of them
        bytes(x, 1, 99, 99, 0, 0, 0, 77);
        int n = x.best(1, 0);
        due("at the top at last", x.taste(0, n, 5), x.taste(0, 60, 5));
        due("not ahead of it", x.taste(0, n - 1, 5) < x.taste(0, n, 5) ? 1 : 0, 1);
        due("how far from it", x.best(1, 1), 198 - 70);
        bytes(x, 1, 0, 0, 0, 0, 0);
        due("at once", x.best(1, 0), 0);
        due("at once", x.best(1, 1), 0);
        due("law", lawOf(x, "m=59?9;0"), 1);
        bytes(x, 1, 9, 9, 9, 9, 9);
        due("the last minute", x.best(1, 0), 60);
        due("the last minute", x.best(1, 1), 0);
        due("ms -1", x.best(-1, 0), BAD);
        due("ms 60", x.best(60, 0), BAD);
        due("ms 6", x.best(6, 0), BAD);
        due("ms 16", x.best(16, 0), BAD);
        due("ms low", x.best(LOW, 0), BAD);
        due("what 2", x.best(1, 2), BAD);
        due("what -1", x.best(1, -1), BAD);
        due("BAD ahead of -11", x.best(31, 2), BAD);
        due("no mix", x.best(31, 0), -11);
        due("mix of shorts", x.best(41, 0), -12);
        due("mix a ladle", x.best(51, 0), -12);
        due("no soup", x.best(3, 0), -11);
        due("soup of shorts", x.best(4, 0), -12);
        due("soup a ladle", x.best(5, 0), -12);
        due("the mix first", x.best(34, 0), -11);
        due("the mix first", x.best(43, 0), -12);
        soupsThatAreNone(x, 2, () -> x.best(2, 0));
        bytes(x, 2, 1);
        due("the mix first, then that it is no soup", x.best(32, 0), -11);
        due("the mix first, then that it is no soup", x.best(42, 0), -12);
    }

    private interface Call {
        long answer();
    }

    private static void soupsThatAreNone(SoupCourt x, int shelf, Call call) {
        int[][] none = {{}, {1, 2, 3, 4}, {100, 0, 0, 0, 0}, {0, 0, 0, 0, -1}, {0, 0, 127, 0, 0}, {0, -128, 0, 0, 0, 5}};
        for (int[] soup : none) {
            bytes(x, shelf, soup);
            due("not five such bytes", call.answer(), BAD);
        }
        bytes(x, shelf, 0, 99, 0, 99, 0, 100);
        due("five such bytes", call.answer() >= 0 ? 1 : 0, 1);
    }

    private static void p11nearest() {
        SoupCourt x = plain();
        wrongShelves(x);
        bytes(x, 0, 2, 5, 0, 0, 0);
        due("no house", x.nearest(0, 1, -1), BAD);
        x.house();
        x.house();
        x.mend(0, 1, 9);
        x.mend(1, 1, 9);
        x.mend(2, 1, 2);
        x.mend(10, 1, 1);
        // THING 0: taste 0 by s/4 + 1: 2 of one, 3 of two; THING 1: taste 1: 3 of one, 5 of two
        due("it fits", x.nearest(0, 1, -1), 0);
        due("of thing 0", x.nearest(0, 1, 0), 1);
        due("of thing 1", x.nearest(0, 1, 1), 2);
        due("of thing 2", x.nearest(0, 1, 2), 0);
        due("of thing 3", x.nearest(0, 1, 3), 0);
        due("house 1 has less", x.nearest(0, 101, -1), 5);
        due("house 1: thing 0", x.nearest(0, 101, 0), 1);
        due("house 1: thing 1", x.nearest(0, 101, 1), 0);
        due("behind none all are like: the least of all", x.nearest(0, 0, -1), 7);
        due("the least of all together", x.nearest(0, 0, 0) + x.nearest(0, 0, 1) + x.nearest(0, 0, 2), 0);
        bytes(x, 1, 30, 0, 0, 0, 0);
        due("two of each at most", x.nearest(1, 1, 0), 2);
        due("two of each at most", x.nearest(1, 1, -1), 27);
        // like ones: w alone counts, so of 3 together the first by numbers is 0 1 2 0
        due("law", lawOf(x, "w"), 1);
        bytes(x, 1, 3, 3, 3, 3, 3);
        due("like ones", x.nearest(1, 1, -1), 0);
        due("like ones: 0", x.nearest(1, 1, 0), 0);
        due("like ones: 1", x.nearest(1, 1, 1), 1);
        due("like ones: 2", x.nearest(1, 1, 2), 2);
        // as far above as below: the least of all together
        due("law", lawOf(x, "w*2"), 1);
        due("between", x.nearest(1, 1, -1), 5);
        due("between: one alone", x.nearest(1, 1, 0) + x.nearest(1, 1, 1) + x.nearest(1, 1, 2), 1);
        due("between: the first by numbers", x.nearest(1, 1, 2), 1);
        due("n 10", x.nearest(1, 10, -1) >= 0 ? 1 : 0, 1);
        due("n 11", x.nearest(1, 11, -1), BAD);
        due("house 2", x.nearest(1, 200, -1), BAD);
        due("hn -1", x.nearest(1, -1, -1), BAD);
        due("hn low", x.nearest(1, LOW, -1), BAD);
        due("hn high", x.nearest(1, HIGH, -1), BAD);
        due("k 4", x.nearest(1, 1, 4), BAD);
        due("k -2", x.nearest(1, 1, -2), BAD);
        due("shelf -1", x.nearest(-1, 1, 0), BAD);
        due("shelf 6", x.nearest(6, 1, 0), BAD);
        due("nothing", x.nearest(3, 1, 0), -11);
        due("shorts", x.nearest(4, 1, 0), -12);
        due("ladle", x.nearest(5, 1, 0), -12);
        due("BAD ahead of -11", x.nearest(3, 11, 0), BAD);
        soupsThatAreNone(x, 2, () -> x.nearest(2, 1, -1));
        due("larders stay", x.of(0, 1) + x.of(1, 1) + x.of(2, 1), 20);
    }

    private static void p12apart() {
        SoupCourt x = new SoupCourt();
        wrongShelves(x);
        bytes(x, 0, 10, 20, 30, 40, 50);
        bytes(x, 1, 10, 27, 30, 37, 50, 100);
        due("no nose", x.apart(1, 0), BAD);
        x.nose(7);
        x.nose(8);
        x.nose(3);
        due("just keen enough", x.apart(1, 0), 1);
        due("the other way", x.apart(10, 0), 1);
        due("not keen enough", x.apart(1, 1), 0);
        due("itself", x.apart(0, 2), 0);
        x.mend(0, 3, 29);
        due("not that taste", x.apart(1, 0), 0);
        x.mend(2, 3, 8);
        due("another taste", x.apart(1, 2), 1);
        x.mend(2, 3, 0);
        due("no taste", x.apart(1, 2), 0);
        due("ss -1", x.apart(-1, 0), BAD);
        due("ss 60", x.apart(60, 0), BAD);
        due("ss 6", x.apart(6, 0), BAD);
        due("ss high", x.apart(HIGH, 0), BAD);
        due("nose 3", x.apart(1, 3), BAD);
        due("nose -1", x.apart(1, -1), BAD);
        due("BAD ahead of -11", x.apart(33, 3), BAD);
        due("nothing, the one", x.apart(30, 0), -11);
        due("nothing, the other", x.apart(3, 0), -11);
        due("the one first", x.apart(34, 0), -11);
        due("the one first", x.apart(43, 0), -12);
        due("shorts, the other", x.apart(4, 0), -12);
        due("ladle, the other", x.apart(5, 0), -12);
        bytes(x, 2, 1, 2, 3, 4);
        due("no soup, then nothing", x.apart(23, 0), -11);
        due("no soup, then shorts", x.apart(24, 0), -12);
        soupsThatAreNone(x, 2, () -> x.apart(20, 0));
        soupsThatAreNone(x, 2, () -> x.apart(2, 0));
    }

    private static void p13jury() {
        SoupCourt x = new SoupCourt();
        wrongShelves(x);
        bytes(x, 0, 10, 10, 10, 10, 10, 20, 10, 10, 10, 10, 10, 20, 10, 10, 10);
        due("no noses", x.jury(0, 0), NOT);
        due("no noses", x.jury(0, 1), NOT);
        x.nose(10);
        x.mend(0, 3, 4);
        due("it tells none", x.jury(0, 0), NOT);
        x.nose(10);
        x.mend(1, 3, 1);
        due("it tells all but one two", x.jury(0, 1), NOT);
        x.nose(10);
        x.mend(2, 3, 2);
        due("two of them", x.jury(0, 0), 2);
        due("these two", x.jury(0, 1), 6);
        x.nose(5);
        due("one alone", x.jury(0, 0), 1);
        due("this one", x.jury(0, 1), 8);
        x.nose(1);
        due("of like ones the least", x.jury(0, 1), 8);
        due("what 2", x.jury(0, 2), BAD);
        due("what -1", x.jury(0, -1), BAD);
        due("shelf -1", x.jury(-1, 0), BAD);
        due("shelf 6", x.jury(6, 0), BAD);
        due("nothing", x.jury(3, 0), -11);
        due("shorts", x.jury(4, 0), -12);
        due("ladle", x.jury(5, 0), -12);
        due("BAD ahead of -12", x.jury(5, 2), BAD);
        // like soups are told by nobody; those behind what is none don't count
        bytes(x, 1, 1, 1, 1, 1, 1, 1, 1, 1, 1, 1);
        due("like soups", x.jury(1, 0), NOT);
        bytes(x, 1, 1, 1, 1, 1, 1, 1, 1, 1, 1);
        due("one and a part", x.jury(1, 0), 0);
        due("one and a part", x.jury(1, 1), 0);
        bytes(x, 1, 1, 1, 1, 1, 1, 1, 1, 1, 1, 100, 1, 1, 1, 1, 1);
        due("it ends with what is none", x.jury(1, 0), 0);
        bytes(x, 1, -1, 1, 1, 1, 1, 1, 1, 1, 1, 1, 1, 1, 1, 1, 1);
        due("it ends at once", x.jury(1, 0), 0);
        x.row(1, 0, 0);
        due("none", x.jury(1, 0), 0);
        int[] many = new int[60];
        for (int i = 0; i < 30; i++) {
            many[i] = 9 * (i / 5);
        }
        bytes(x, 1, many);
        due("six at most: the seventh is like the first", x.jury(1, 1), 8);
        many[25] = many[26] = many[27] = many[28] = many[29] = 0;
        bytes(x, 1, many);
        due("the sixth counts", x.jury(1, 1), NOT);
    }

    // ---- in the house

    private static void p14inHouse() {
        SoupCourt x = plain();
        wrongShelves(x);
        bytes(x, 0, 2, 5, 0, 0, 0);
        due("no house", x.inHouse(0, 1, 0), BAD);
        x.house();
        x.house();
        x.mend(0, 1, 9);
        x.mend(1, 1, 9);
        due("one fits", x.inHouse(0, 1, 0), 1);
        due("which", x.inHouse(0, 1, 1), 64 + 32);
        due("least of 0", x.inHouse(0, 1, 10), 1);
        due("most of 1", x.inHouse(0, 1, 21), 2);
        due("least of 3", x.inHouse(0, 1, 13), 0);
        due("house 1 has none", x.inHouse(0, 101, 0), 0);
        for (int what : new int[] {1, 10, 11, 12, 13, 20, 21, 22, 23}) {
            due("house 1 has none: " + what, x.inHouse(0, 101, what), NOT);
        }
        // THING 2 of 3 in TASTE 2: 1 fits as s / 4 is 0 and the fire is 1; THING 3 of 4 in TASTE 3
        x.mend(22, 0, 0);
        x.mend(2, 1, 2);
        due("three fit: thing 2 is tasteless", x.inHouse(0, 1, 0), 3);
        due("the least", x.inHouse(0, 1, 1), 64 + 32);
        due("least of 2", x.inHouse(0, 1, 12), 0);
        due("most of 2", x.inHouse(0, 1, 22), 2);
        x.mend(2, 1, 9);
        due("three of each at most", x.inHouse(0, 1, 22), 3);
        due("law", lawOf(x, "w"), 1);
        bytes(x, 1, 4, 4, 4, 4, 4);
        x.mend(3, 1, 3);
        due("all that fit", x.inHouse(1, 1, 0), 31);
        due("the least: 0 0 1 3", x.inHouse(1, 1, 1), 7);
        due("least of 0", x.inHouse(1, 1, 10), 0);
        due("most of 0", x.inHouse(1, 1, 20), 3);
        x.mend(3, 1, 0);
        x.mend(2, 1, 1);
        due("that fit: 1 3 0, 2 2 0, 3 1 0, 0 3 1, 1 2 1, 2 1 1, 3 0 1", x.inHouse(1, 1, 0), 7);
        due("the least: 0 3 1", x.inHouse(1, 1, 1), 52);
        due("most of 1", x.inHouse(1, 1, 21), 3);
        due("least of 3", x.inHouse(1, 1, 13), 0);
        due("n 0", x.inHouse(1, 0, 0), 0);
        bytes(x, 1, 0, 0, 0, 0, 0);
        due("n 0, all fit", x.inHouse(1, 0, 0), 32);
        due("n 10", x.inHouse(1, 10, 0), 1);
        due("n 11", x.inHouse(1, 11, 0), BAD);
        due("house 2", x.inHouse(1, 200, 0), BAD);
        due("hn -1", x.inHouse(1, -1, 0), BAD);
        for (int what : new int[] {-1, 2, 9, 14, 19, 24, 30, LOW, HIGH}) {
            due("what " + what, x.inHouse(1, 1, what), BAD);
        }
        due("shelf -1", x.inHouse(-1, 1, 0), BAD);
        due("shelf 6", x.inHouse(6, 1, 0), BAD);
        due("nothing", x.inHouse(3, 1, 0), -11);
        due("shorts", x.inHouse(4, 1, 0), -12);
        due("ladle", x.inHouse(5, 1, 0), -12);
        due("BAD ahead of -11", x.inHouse(3, 1, 2), BAD);
        soupsThatAreNone(x, 2, () -> x.inHouse(2, 1, 0));
    }

    private static void p15lent() {
        SoupCourt x = new SoupCourt();
        wrongShelves(x);
        bytes(x, 0, 2, 0, 3, 0, 0, 0, 0, 1);
        due("no house", x.lent(0, 0), BAD);
        x.house();
        due("nobody else", x.lent(0, 0), NOT);
        x.house();
        x.house();
        x.mend(0, 1, 1);
        x.mend(12, 1, 2);
        x.mend(22, 1, 1);
        x.mend(20, 1, 5);
        due("7 lacks", x.lent(0, 0), NOT);
        x.mend(17, 1, 1);
        due("by any", x.lent(0, 0), 1 + 3 + 1);
        due("its own", x.lent(0, 1), 2 + 1);
        due("its own", x.lent(0, 2), 2 + 1);
        x.mend(22, 1, 0);
        due("not so much together", x.lent(0, 0), NOT);
        bytes(x, 1, 1);
        due("it has it", x.lent(1, 0), 0);
        x.row(1, 0, 0);
        due("nothing is wanted", x.lent(1, 0), 0);
        due("house 3", x.lent(0, 3), BAD);
        due("house -1", x.lent(0, -1), BAD);
        due("shelf -1", x.lent(-1, 0), BAD);
        due("shelf 6", x.lent(6, 0), BAD);
        due("nothing", x.lent(3, 0), -11);
        due("shorts", x.lent(4, 0), -12);
        due("ladle", x.lent(5, 0), -12);
        due("BAD ahead of -11", x.lent(3, 3), BAD);
        due("in thought alone", x.of(20, 1), 5);
        due("no facts", x.led(0), 0);
    }

    private static void p16whoCould() {
        SoupCourt x = new SoupCourt();
        wrongShelves(x);
        bytes(x, 0, 2, 0, 3);
        due("no houses", x.whoCould(0), 0);
        for (int h = 0; h < 6; h++) {
            x.house();
        }
        due("none", x.whoCould(0), 0);
        x.mend(10, 1, 2);
        x.mend(12, 1, 3);
        x.mend(50, 1, 9);
        x.mend(52, 1, 9);
        x.mend(40, 1, 1);
        x.mend(42, 1, 9);
        due("1 and 5", x.whoCould(0), 2 + 32);
        x.row(1, 0, 0);
        due("all", x.whoCould(1), 63);
        due("shelf -1", x.whoCould(-1), BAD);
        due("shelf 6", x.whoCould(6), BAD);
        due("nothing", x.whoCould(3), -11);
        due("shorts", x.whoCould(4), -12);
        due("ladle", x.whoCould(5), -12);
    }

    private static void p17fires() {
        SoupCourt x = new SoupCourt();
        wrongShelves(x);
        bytes(x, 0, 3, 3, 2, 2, 2);
        due("one fire", x.fires(0, 1, -1), 12);
        due("two fires", x.fires(0, 2, -1), 6);
        int[] way = {0, 0, 1, 1, 1};
        for (int j = 0; j < 5; j++) {
            due("its fire " + j, x.fires(0, 2, j), way[j]);
            due("one fire " + j, x.fires(0, 1, j), 0);
        }
        due("three fires", x.fires(0, 3, -1), 5);
        int[] way3 = {0, 1, 0, 1, 2};
        for (int j = 0; j < 5; j++) {
            due("of three " + j, x.fires(0, 3, j), way3[j]);
        }
        due("j 5", x.fires(0, 2, 5), NOT);
        due("j high", x.fires(0, 2, HIGH), NOT);
        due("j -2", x.fires(0, 2, -2), BAD);
        due("k 0", x.fires(0, 0, -1), BAD);
        due("k 4", x.fires(0, 4, -1), BAD);
        due("k 4, j 9", x.fires(0, 4, 9), BAD);
        bytes(x, 1, 60, 1, 61, 5);
        due("61 is none", x.fires(1, 1, -1), 61);
        due("61 is none", x.fires(1, 1, 2), NOT);
        bytes(x, 1, 60, 1, 0, 5);
        due("0 is none", x.fires(1, 1, -1), 61);
        bytes(x, 1, 60, 1, -1, 5);
        due("-1 is none", x.fires(1, 1, -1), 61);
        bytes(x, 1, 1, 2, 3, 4, 5, 6, 7, 8, 9);
        due("eight at most", x.fires(1, 1, -1), 36);
        due("eight at most", x.fires(1, 3, -1), 12);
        int[] way8 = {0, 0, 0, 1, 2, 0, 2, 1};
        for (int j = 0; j < 8; j++) {
            due("of eight " + j, x.fires(1, 3, j), way8[j]);
        }
        due("the ninth", x.fires(1, 3, 8), NOT);
        x.row(1, 0, 0);
        due("none at all", x.fires(1, 3, -1), 0);
        due("none at all", x.fires(1, 3, 0), NOT);
        due("shelf -1", x.fires(-1, 1, -1), BAD);
        due("shelf 6", x.fires(6, 1, -1), BAD);
        due("nothing", x.fires(3, 1, -1), -11);
        due("shorts", x.fires(4, 1, -1), -12);
        due("ladle", x.fires(5, 1, -1), -12);
        due("BAD ahead of -11", x.fires(3, 4, -1), BAD);
    }

    private static void p18byTurns() {
        SoupCourt x = plain();
        wrongShelves(x);
        x.row(0, 0, 0);
        bytes(x, 1, 2, 0, 0, 0, 0);
        // the first one puts one of THING 0 in: TASTE 0 is 4 / 4 + 1
        due("how far", x.byTurns(1, 1, 0), 0);
        due("its first", x.byTurns(1, 1, 1), 0);
        // it is at 2 already, then two more: the other one makes it worse by THING 1, by 8 / 4 + 1
        due("nothing comes first of like ones", firstOfLikeOnes(), 4);
        due("law", lawOf(x, "w"), 1);
        bytes(x, 1, 5, 5, 5, 5, 5);
        // w is 1 and 2 at the most: 3 at the best of the first one with the other one putting nothing: 1 + 1
        due("two deeds", x.byTurns(1, 2, 0), 5 * (5 - 2));
        due("two deeds: the least", x.byTurns(1, 2, 1), 0);
        due("three deeds", x.byTurns(1, 3, 0), 5 * (5 - 1 - 1 - 2));
        // the MIX has 9 of 0 and 1 already: no more of them
        bytes(x, 0, 9, 9);
        due("law", lawOf(x, "w-17"), 1);
        bytes(x, 1, 2, 2, 2, 2, 2);
        due("9 at most", x.byTurns(1, 1, 1), 2);
        bytes(x, 0, 9, 9, 9, 9);
        due("law", lawOf(x, "w-35"), 1);
        due("9 at most of all: nothing", x.byTurns(1, 3, 1), 4);
        due("9 at most of all: nothing", x.byTurns(1, 3, 0), 5);
        due("law", lawOf(x, "m+1"), 1);
        bytes(x, 1, 6, 6, 6, 6, 6);
        due("minutes go on", x.byTurns(1, 3, 0), 0);
        due("n 0", x.byTurns(1, 0, 0), BAD);
        due("n 4", x.byTurns(1, 4, 0), BAD);
        due("what 2", x.byTurns(1, 1, 2), BAD);
        due("what -1", x.byTurns(1, 1, -1), BAD);
        due("ms -1", x.byTurns(-1, 1, 0), BAD);
        due("ms 60", x.byTurns(60, 1, 0), BAD);
        due("ms 6", x.byTurns(6, 1, 0), BAD);
        due("BAD ahead of -11", x.byTurns(31, 0, 0), BAD);
        due("no mix", x.byTurns(34, 1, 0), -11);
        due("mix of shorts", x.byTurns(43, 1, 0), -12);
        due("no soup", x.byTurns(3, 1, 0), -11);
        due("soup a ladle", x.byTurns(5, 1, 0), -12);
        soupsThatAreNone(x, 2, () -> x.byTurns(2, 2, 0));
        bytes(x, 2, 1);
        due("the mix first", x.byTurns(32, 1, 0), -11);
        due("the mix stays", x.element(0, 0), 9);
    }

    private static int firstOfLikeOnes() {
        SoupCourt x = new SoupCourt();
        x.row(0, 0, 0);
        bytes(x, 1, 5, 0, 0, 0, 0);
        return x.byTurns(1, 3, 1);
    }

    private static void p19drawn() {
        SoupCourt x = plain();
        wrongShelves(x);
        bytes(x, 0, 1, 2);
        due("law", lawOf(x, "f"), 1);
        int z = 77;
        int sum = 0;
        for (int term = 0; term < 3; term++) {
            for (int m = 0; m < 4; m++) {
                z = z * 1103515245 + 12345;
                sum += (z >>> 8) % 10;
            }
        }
        due("three terms of four minutes", x.drawn(77, 304, 0, 2), sum);
        due("all five", x.drawn(77, 304, 0, 5), 5 * sum);
        due("a seed below 0", x.drawn(-5, 101, 0, 0), ((-5 * 1103515245 + 12345) >>> 8) % 10);
        due("law", lawOf(x, "m+1"), 1);
        due("each term begins anew", x.drawn(0, 203, 0, 4), 2 * (1 + 2 + 3));
        due("law", lawOf(x, "20"), 1);
        due("30 terms of 40 minutes", x.drawn(0, 3040, 0, 5), 30 * 99 * 5);
        due("fire stays", x.of(0, 4), 5);
        due("n 0", x.drawn(0, 1, 0, 0), BAD);
        due("n 31", x.drawn(0, 3101, 0, 0), BAD);
        due("m 0", x.drawn(0, 100, 0, 0), BAD);
        due("m 41", x.drawn(0, 141, 0, 0), BAD);
        due("nm below 0", x.drawn(0, -101, 0, 0), BAD);
        due("nm low", x.drawn(0, LOW, 0, 0), BAD);
        due("nm high", x.drawn(0, HIGH, 0, 0), BAD);
        due("taste 6", x.drawn(0, 101, 0, 6), BAD);
        due("taste -1", x.drawn(0, 101, 0, -1), BAD);
        due("shelf -1", x.drawn(0, 101, -1, 0), BAD);
        due("shelf 6", x.drawn(0, 101, 6, 0), BAD);
        due("nothing", x.drawn(0, 101, 3, 0), -11);
        due("shorts", x.drawn(0, 101, 4, 0), -12);
        due("ladle", x.drawn(0, 101, 5, 0), -12);
        due("BAD ahead of -11", x.drawn(0, 141, 3, 0), BAD);
    }

    // ---- in deed

    private static void p20fact() {
        SoupCourt x = new SoupCourt();
        due("no house", x.fact(3, 0), BAD);
        x.house();
        x.house();
        due("eaten: none", x.fact(0, 0), STATE);
        due("burnt: none", x.fact(1, 0), STATE);
        due("lent: none", x.fact(2, 1), STATE);
        due("bought", x.fact(3, 0), 1);
        due("bought", x.fact(3, 170), 1);
        due("has", x.of(17, 1), 1);
        x.mend(3, 1, 9);
        due("bought: 9", x.fact(3, 30), STATE);
        due("eaten", x.fact(0, 30), 8);
        due("lent", x.fact(2, 31), 7);
        due("by the other", x.of(13, 1), 1);
        due("burnt", x.fact(1, 30), 0);
        due("burnt: none", x.fact(1, 30), STATE);
        x.mend(3, 1, 2);
        x.mend(13, 1, 9);
        due("lent: the other has 9", x.fact(2, 31), STATE);
        due("nothing changed", x.of(3, 1), 2);
        x.mend(13, 1, 8);
        due("lent: the ninth", x.fact(2, 31), 1);
        due("by the other", x.of(13, 1), 9);
        due("lent back", x.fact(2, 130), 8);
        due("by the other", x.of(3, 1), 2);
        due("lent to itself", x.fact(2, 30), BAD);
        due("lent to itself", x.fact(2, 131), BAD);
        due("lent to no house", x.fact(2, 32), BAD);
        due("lent to house 9", x.fact(2, 39), BAD);
        due("eaten with another one", x.fact(0, 31), BAD);
        due("burnt with another one", x.fact(1, 31), BAD);
        due("bought with another one", x.fact(3, 31), BAD);
        due("thing 8", x.fact(3, 80), BAD);
        due("thing 9", x.fact(3, 90), BAD);
        due("house 2", x.fact(3, 200), BAD);
        due("ht -1", x.fact(3, -1), BAD);
        due("ht -100", x.fact(3, -100), BAD);
        due("ht low", x.fact(3, LOW), BAD);
        due("ht high", x.fact(3, HIGH), BAD);
        due("kind 4", x.fact(4, 0), BAD);
        due("kind -1", x.fact(-1, 0), BAD);
        due("facts", x.led(0), 7);
        due("facts are no changes", x.count(3), 4);
    }

    private static void p21pot() {
        SoupCourt x = plain();
        wrongShelves(x);
        bytes(x, 0, 1, 2);
        due("no house", x.pot(0, 0), BAD);
        x.house();
        x.house();
        due("it has not so much", x.pot(0, 0), STATE);
        x.mend(0, 1, 4);
        x.mend(1, 1, 3);
        due("house 1 has not", x.pot(0, 1), STATE);
        due("none is on", x.potOf(5), STATE);
        due("it is put on", x.pot(0, 0), 3);
        due("gone 0", x.of(0, 1), 3);
        due("gone 1", x.of(1, 1), 1);
        due("minutes", x.potOf(5), 0);
        due("in", x.potOf(6), 3);
        x.minute();
        due("now it has not so much", x.pot(0, 0), STATE);
        due("nothing gone", x.of(0, 1), 3);
        due("the one ahead stays", x.potOf(5), 1);
        x.row(1, 0, 0);
        due("an empty one", x.pot(1, 1), 0);
        due("poured away: minutes", x.potOf(5), 0);
        due("poured away: taste", x.potOf(0), 0);
        due("poured away: in", x.potOf(6), 0);
        due("pots", x.led(1), 2);
        due("no changes", x.count(3), 6);
        due("house 2", x.pot(0, 2), BAD);
        due("house -1", x.pot(0, -1), BAD);
        due("shelf -1", x.pot(-1, 0), BAD);
        due("shelf 6", x.pot(6, 0), BAD);
        due("nothing", x.pot(3, 0), -11);
        due("shorts", x.pot(4, 0), -12);
        due("ladle", x.pot(5, 0), -12);
        due("BAD ahead of -11", x.pot(3, 2), BAD);
        for (int thing = 0; thing < 8; thing++) {
            x.mend(10 + thing, 1, 9);
        }
        bytes(x, 2, 9, 9, 9, 9, 9, 9, 9, 9, 9);
        due("all", x.pot(2, 1), 72);
        due("all gone", x.whoCould(2), 0);
        due("all gone", x.of(17, 1), 0);
    }

    private static void p22minute() {
        SoupCourt x = plain();
        due("none is on", x.minute(), STATE);
        due("no minutes", x.led(2), 0);
        x.house();
        x.mend(1, 1, 2);
        bytes(x, 0, 0, 2);
        x.pot(0, 0);
        for (int m = 1; m <= 3; m++) {
            due("minute", x.minute(), m);
        }
        due("as in thought", x.potOf(1), x.taste(0, 3, 1));
        x.mend(0, 4, 9);
        x.mend(11, 0, 0);
        due("minute", x.minute(), 4);
        due("by strength and fire as they are now", x.potOf(1), 13);
        x.mend(12, 0, 9);
        due("minute", x.minute(), 5);
        due("a taste that comes late", x.potOf(2), 18 / 4 + 1);
        due("law", lawOf(x, "m<99?0;t+1"), 1);
        int before = x.potOf(4);
        for (int m = 6; m <= 99; m++) {
            due("minute", x.minute(), m);
        }
        due("not yet", x.potOf(4), before);
        due("99 stays", x.minute(), 99);
        due("it grows on", x.potOf(4), 2 * before + 1);
        due("99 stays", x.minute(), 99);
        due("minutes led", x.led(2), 101);
    }

    private static void p23potOf() {
        SoupCourt x = plain();
        due("none is on", x.potOf(0), STATE);
        due("none is on", x.potOf(6), STATE);
        due("BAD ahead of STATE", x.potOf(7), BAD);
        due("-1", x.potOf(-1), BAD);
        x.house();
        x.mend(0, 1, 2);
        x.mend(1, 1, 5);
        bytes(x, 0, 1, 2);
        x.pot(0, 0);
        x.minute();
        x.minute();
        int[] due = {4, 10, 0, 0, 0, 2, 3};
        for (int taste = 0; taste < 7; taste++) {
            due("pot's " + taste, x.potOf(taste), due[taste]);
        }
        due("7", x.potOf(7), BAD);
        due("low", x.potOf(LOW), BAD);
        due("high", x.potOf(HIGH), BAD);
    }

    private static void p24spoon() {
        SoupCourt x = plain();
        wrongShelves(x);
        bytes(x, 0, 4, 10, 0, 0, 6);
        bytes(x, 1, 1, 2);
        due("no nose", x.spoon(0, 0), BAD);
        x.nose(6);
        x.nose(7);
        due("none is on", x.spoon(0, 0), STATE);
        due("nothing ahead of STATE", x.spoon(3, 0), -11);
        due("shorts ahead of STATE", x.spoon(4, 0), -12);
        due("no soup ahead of STATE", x.spoon(1, 0), BAD);
        x.house();
        x.mend(0, 1, 2);
        x.mend(1, 1, 5);
        x.pot(1, 0);
        x.minute();
        x.minute();
        due("it tells it", x.spoon(0, 0), 1);
        due("it does not", x.spoon(0, 1), 0);
        x.mend(0, 3, 15);
        due("not that taste", x.spoon(0, 0), 0);
        due("tasted", x.led(3), 3);
        due("told apart", x.led(4), 1);
        due("nose 2", x.spoon(0, 2), BAD);
        due("nose -1", x.spoon(0, -1), BAD);
        due("shelf -1", x.spoon(-1, 0), BAD);
        due("shelf 6", x.spoon(6, 0), BAD);
        due("nothing", x.spoon(3, 0), -11);
        due("shorts", x.spoon(4, 0), -12);
        due("ladle", x.spoon(5, 0), -12);
        due("BAD ahead of -11", x.spoon(3, 2), BAD);
        due("tasted still", x.led(3), 3);
        soupsThatAreNone(x, 2, () -> x.spoon(2, 0));
        due("it stays as it is", x.potOf(5), 2);
    }

    private static void p25led() {
        SoupCourt x = new SoupCourt();
        x.house();
        x.nose(1);
        bytes(x, 0, 1);
        bytes(x, 1, 5, 0, 0, 0, 0);
        x.fact(3, 0);
        x.fact(3, 0);
        x.fact(3, 0);
        x.fact(0, 0);
        x.fact(0, 10);
        x.pot(0, 0);
        x.pot(0, 0);
        x.pot(0, 0);
        x.minute();
        x.spoon(1, 0);
        x.minute();
        x.minute();
        bytes(x, 1, 0, 0, 0, 0, 0);
        x.spoon(1, 0);
        due("facts", x.led(0), 4);
        due("pots", x.led(1), 2);
        due("minutes", x.led(2), 3);
        due("tasted", x.led(3), 2);
        due("told apart", x.led(4), 1);
        due("5", x.led(5), BAD);
        due("-1", x.led(-1), BAD);
        due("low", x.led(LOW), BAD);
        due("high", x.led(HIGH), BAD);
    }

    private static void p26image() {
        SoupCourt x = new SoupCourt();
        due("at once", x.image(), 0);
        x.house();
        x.row(0, 0, 0);
        x.pot(0, 0);
        x.minute();
        x.minute();
        due("minutes", x.image(), 2);
        x.pot(0, 0);
        x.minute();
        // the minutes that LED tells, not those of the POT
        due("minutes, as led", x.image(), 3);
        due("the later one", x.back(), 3);
        due("the later one's pot", x.potOf(5), 1);
    }

    private static void p27back() {
        SoupCourt x = plain();
        due("none", x.back(), STATE);
        x.house();
        x.nose(1);
        x.mend(0, 1, 5);
        x.mend(1, 1, 6);
        bytes(x, 0, 1, 2);
        bytes(x, 1, 50, 0, 0, 0, 0);
        x.pot(0, 0);
        x.minute();
        x.spoon(1, 0);
        x.fact(3, 0);
        due("image", x.image(), 1);
        int taste = x.potOf(1);
        x.house();
        x.fact(3, 110);
        x.fact(1, 0);
        x.mend(1, 1, 9);
        x.mend(0, 4, 7);
        x.pot(0, 1);
        bytes(x, 0, 0, 1);
        x.pot(0, 0);
        x.minute();
        x.minute();
        x.spoon(1, 0);
        due("laid back", x.back(), 1);
        due("has 0", x.of(0, 1), 5);
        due("has 1", x.of(1, 1), 4);
        due("a house that came since", x.of(11, 1), 1);
        due("houses", x.count(0), 2);
        due("the pot's minutes", x.potOf(5), 1);
        due("the pot's things", x.potOf(6), 3);
        due("the pot's taste", x.potOf(1), taste);
        int[] led = {1, 1, 1, 1, 1};
        for (int what = 0; what < 5; what++) {
            due("led " + what, x.led(what), led[what]);
        }
        due("fire stays", x.of(0, 4), 7);
        due("changes stay", x.count(3), 8);
        due("undone", x.undo(), 7);
        due("fire", x.of(0, 4), 5);
        due("undone", x.undo(), 6);
        due("has as it was ahead of the change", x.of(1, 1), 4);
        due("done again", x.redo(), 1);
        due("has", x.of(1, 1), 9);
        x.minute();
        due("once more", x.back(), 1);
        due("has", x.of(1, 1), 4);
        x.minute();
        due("it cooks on from there", x.potOf(1), x.potOf(5) == 2 ? 2 * taste : -1);
        SoupCourt y = new SoupCourt();
        y.image();
        y.house();
        y.row(0, 0, 0);
        y.pot(0, 0);
        due("laid back", y.back(), 0);
        due("no pot was on", y.potOf(0), STATE);
        due("no pot was on", y.minute(), STATE);
    }

    private static void p28undo() {
        SoupCourt x = new SoupCourt();
        due("none", x.undo(), STATE);
        x.house();
        x.nose(5);
        due("house and nose are none", x.undo(), STATE);
        x.mend(0, 0, 3);
        x.mend(0, 1, 4);
        x.mend(0, 2, 6);
        x.mend(0, 3, 7);
        x.mend(0, 4, 8);
        x.mend(0, 4, 8);
        x.fact(0, 0);
        due("undone", x.undo(), 4);
        due("fire", x.of(0, 4), 5);
        due("undone", x.undo(), 3);
        due("which", x.of(0, 3), 31);
        due("undone", x.undo(), 2);
        due("keen", x.of(0, 2), 5);
        due("has by the fact", x.of(0, 1), 3);
        due("undone", x.undo(), 1);
        due("has", x.of(0, 1), 0);
        due("undone", x.undo(), 0);
        due("strength", x.of(0, 0), 0);
        due("none more", x.undo(), STATE);
        due("the fact stays", x.led(0), 1);
        for (int i = 0; i < 45; i++) {
            x.mend(0, 4, i % 2 == 0 ? 1 : 2);
        }
        due("40 are kept", x.count(3), 40);
        for (int i = 39; i >= 0; i--) {
            due("undone", x.undo(), i);
        }
        due("none more", x.undo(), STATE);
        due("as the fifth left it", x.of(0, 4), 1);
    }

    private static void p29redo() {
        SoupCourt x = new SoupCourt();
        due("none", x.redo(), STATE);
        x.house();
        x.mend(0, 4, 1);
        x.mend(0, 4, 2);
        x.mend(0, 1, 3);
        due("none undone", x.redo(), STATE);
        x.undo();
        x.undo();
        due("done again", x.redo(), 1);
        due("fire", x.of(0, 4), 2);
        x.fact(3, 0);
        x.nose(4);
        x.mend(0, 4, 2);
        x.mend(0, 4, 10);
        due("deeds and what is the same are no changes", x.redo(), 0);
        due("has", x.of(0, 1), 3);
        due("none more", x.redo(), STATE);
        x.undo();
        x.undo();
        x.mend(0, 0, 9);
        due("another came behind", x.redo(), STATE);
        due("two may be undone", x.count(3), 2);
        due("undone", x.undo(), 1);
        due("strength", x.of(0, 0), 0);
        due("done again", x.redo(), 0);
        due("strength", x.of(0, 0), 9);
        for (int i = 0; i < 50; i++) {
            x.mend(0, 4, 3 + i % 2);
        }
        for (int i = 0; i < 40; i++) {
            x.undo();
        }
        for (int i = 39; i >= 0; i--) {
            due("done again", x.redo(), i);
        }
        due("fire", x.of(0, 4), 4);
        due("none more", x.redo(), STATE);
    }

    // ---- acts, shelves

    private static void p30body() {
        SoupCourt x = new SoupCourt();
        due("kind 8", x.body(8), BAD);
        due("kind -1", x.body(-1), BAD);
        due("kind low", x.body(LOW), BAD);
        for (int i = 0; i < 50; i++) {
            due("body", x.body(i % 8), i);
        }
        due("the 51st", x.body(0), FULL);
        due("BAD ahead of FULL", x.body(8), BAD);
        due("bodies", x.count(4), 50);
        x.keep(0, 47);
        due("its kind", x.taken(0, 0), 7);
    }

    private static void p31act() {
        SoupCourt x = new SoupCourt();
        for (int kind = 0; kind < 8; kind++) {
            x.body(kind);
        }
        // x is 10; by KIND: boils, tastes, swears, tells
        int[][] due = {
            {10, 20, 10, 20 - 1},
            {14, 28, 11, 28 - 0},
            {12, -24, 8, -24 - 3},
            {13, -(14 * 2), (10 ^ 3) * 3, -(14 * 2) - (1 ^ 3) * 3},
            {17, 34, (10 ^ 4) - 9, 34 - ((1 ^ 4) - 9)},
            {15, -(16 * 2), (10 ^ 5) * 3, (-(16 * 2) - (1 ^ 5) * 3) ^ 5},
            {32, 64, 10 ^ 6, 64 - (1 ^ 6)},
            {20, 40 + ((2 ^ 7) - 12), (10 ^ 7) - 12, 40 + ((2 ^ 7) - 12) - ((1 ^ 7) - 12) - 1},
        };
        for (int kind = 0; kind < 8; kind++) {
            for (int act = 0; act < 4; act++) {
                due("act " + act + " of kind " + kind, x.act(kind, act, 10), due[kind][act]);
            }
        }
        due("it wraps", x.act(0, 1, HIGH), -2);
        due("it wraps", x.act(1, 0, HIGH), LOW + 3);
        due("it wraps", x.act(5, 1, HIGH), -((LOW + 5) * 2));
        due("it ran", x.count(5) > 0 ? 1 : 0, 1);
        due("no such ladle", x.act(8, 0, 10), 0);
        due("no trace then", x.count(5), 0);
        due("no trace then", x.trace(0), BAD);
        x.act(0, 0, 1);
        due("a trace", x.trace(0), 1);
        due("ladle -1", x.act(-1, 0, 10), 0);
        due("no trace then", x.trace(0), BAD);
        x.act(0, 0, 1);
        due("act 4", x.act(0, 4, 10), 0);
        due("no trace then", x.count(5), 0);
        x.act(0, 0, 1);
        due("act -1", x.act(0, -1, 10), 0);
        due("no trace then", x.trace(0), BAD);
        due("act low", x.act(LOW, LOW, LOW), 0);
        due("act high", x.act(HIGH, HIGH, HIGH), 0);
    }

    private static void p32trace() {
        SoupCourt x = new SoupCourt();
        for (int kind = 0; kind < 8; kind++) {
            x.body(kind);
        }
        traced(x, 0, 0, 1);
        traced(x, 0, 3, 2, 10, 1, 11);
        traced(x, 1, 3, 2, 10, 20, 1, 11);
        traced(x, 2, 3, 2, 30, 10, 1, 11);
        traced(x, 3, 3, 2, 41, 30, 10, 1, 40, 11);
        traced(x, 4, 3, 2, 10, 20, 1, 50, 11, 20, 1);
        traced(x, 5, 3, 60, 2, 41, 30, 10, 1, 40, 11);
        traced(x, 6, 1, 10, 70, 1);
        traced(x, 7, 1, 80, 10, 20, 1, 50, 11, 20, 1);
        traced(x, 7, 3, 81, 2, 80, 10, 20, 1, 50, 11, 20, 1, 50, 11, 20, 1);
    }

    private static void traced(SoupCourt x, int body, int act, int... bodies) {
        x.act(body, act, 1);
        due("ran", x.count(5), bodies.length);
        for (int i = 0; i < bodies.length; i++) {
            due("trace of " + body + " " + act + " at " + i, x.trace(i), bodies[i]);
        }
        due("behind it", x.trace(bodies.length), BAD);
        due("ahead of it", x.trace(-1), BAD);
        due("low", x.trace(LOW), BAD);
        due("high", x.trace(HIGH), BAD);
    }

    private static void p33keep() {
        SoupCourt x = new SoupCourt();
        due("no such body", x.keep(0, 0), BAD);
        due("nothing", x.keep(0, -1), 1);
        x.body(2);
        due("a ladle", x.keep(5, 0), 1);
        due("it is there", x.taken(5, 0), 2);
        due("body 1", x.keep(5, 1), BAD);
        due("body -2", x.keep(5, -2), BAD);
        due("body low", x.keep(5, LOW), BAD);
        due("shelf 6", x.keep(6, 0), BAD);
        due("shelf -1", x.keep(-1, 0), BAD);
        due("still there", x.taken(5, 0), 2);
        due("nothing", x.keep(5, -1), 1);
        due("gone", x.taken(5, 0), -11);
        bytes(x, 1, 1, 2);
        due("in place of a row", x.keep(1, 0), 1);
        due("it is there", x.taken(1, 2), 2);
        due("in place of a row", x.keep(1, -1), 1);
        due("gone", x.put(1, 0, 0), -11);
    }

    private static void p34row() {
        SoupCourt x = new SoupCourt();
        due("sort 5", x.row(0, 5, 1), BAD);
        due("sort -1", x.row(0, -1, 1), BAD);
        due("n 61", x.row(0, 0, 61), BAD);
        due("n high", x.row(0, 0, HIGH), BAD);
        due("n -1", x.row(0, 0, -1), -14);
        due("n low", x.row(0, 4, LOW), -14);
        due("BAD ahead of -14", x.row(0, 5, -1), BAD);
        due("BAD ahead of -14", x.row(6, 0, -1), BAD);
        due("shelf -1", x.row(-1, 0, 1), BAD);
        due("nothing came", x.put(0, 0, 0), -11);
        for (int sort = 0; sort < 5; sort++) {
            due("row", x.row(sort, sort, 60), 1);
            due("its last", x.put(sort, 59, 1), 1);
            due("no more", x.put(sort, 60, 1), -13);
            due("anew", x.row(sort, sort, 60), 1);
            due("0 at first", x.element(sort, 59), 0);
        }
        due("a refused one leaves what is there", x.row(3, 3, -1), -14);
        due("it is there", x.put(3, 0, 7), 1);
        due("none", x.row(5, 0, 0), 1);
        due("no place", x.put(5, 0, 1), -13);
    }

    private static void p35put() {
        SoupCourt x = new SoupCourt();
        x.body(0);
        x.keep(5, 0);
        long[] in = {0x123456789abcdef0L, -1L, 128L, 32768L, 1L << 31, 1L << 63, 256L};
        long[][] out = {
            {(byte) 0xf0, -1, -128, 0, 0, 0, 0},
            {(short) 0xdef0, -1, 128, -32768, 0, 0, 256},
            {0x9abcdef0, -1, 128, 32768, 1 << 31, 0, 256},
            {0x123456789abcdef0L, -1, 128, 32768, 1L << 31, 1L << 63, 256},
            {1, 1, 1, 1, 1, 1, 1},
        };
        for (int sort = 0; sort < 5; sort++) {
            x.row(sort, sort, 7);
            for (int i = 0; i < 7; i++) {
                due("put", x.put(sort, i, in[i]), 1);
                due("sort " + sort + " keeps " + in[i], x.element(sort, i), out[sort][i]);
            }
        }
        due("a boolean of 0", x.put(4, 0, 0), 1);
        due("a boolean of 0", x.element(4, 0), 0);
        due("place 7", x.put(0, 7, 1), -13);
        due("place -1", x.put(0, -1, 1), -13);
        due("place low", x.put(0, LOW, 1), -13);
        due("shelf 6", x.put(6, 0, 1), BAD);
        due("shelf -1", x.put(-1, 0, 1), BAD);
        due("ladle", x.put(5, 0, 1), -12);
        due("ladle ahead of the place", x.put(5, 99, 1), -12);
        x.keep(5, -1);
        due("nothing", x.put(5, 0, 1), -11);
    }

    private static void p36element() {
        SoupCourt x = new SoupCourt();
        long none = Long.MIN_VALUE;
        x.body(0);
        x.keep(5, 0);
        x.row(0, 3, 2);
        x.put(0, 1, 1234567890123L);
        due("element", x.element(0, 1), 1234567890123L);
        due("element", x.element(0, 0), 0);
        due("place 2", x.element(0, 2), none);
        due("place -1", x.element(0, -1), none);
        due("place high", x.element(0, HIGH), none);
        due("shelf 6", x.element(6, 0), none);
        due("shelf -1", x.element(-1, 0), none);
        due("nothing", x.element(1, 0), none);
        due("ladle", x.element(5, 0), none);
    }

    private static void p37shift() {
        SoupCourt x = new SoupCourt();
        x.body(0);
        bytes(x, 0, 1, 2, 3, 4, 5);
        bytes(x, 1, 9, 9, 9);
        x.row(2, 1, 9);
        x.keep(5, 0);
        due("three", x.shift(0, 1, 1, 0, 3), 3);
        same(x, 1, 2, 3, 4);
        due("to the right, over itself", x.shift(0, 0, 0, 1, 4), 4);
        same(x, 0, 1, 1, 2, 3, 4);
        due("to the left, over itself", x.shift(0, 2, 0, 0, 3), 3);
        same(x, 0, 2, 3, 4, 3, 4);
        due("none, at the ends", x.shift(0, 5, 1, 3, 0), 0);
        due("all", x.shift(1, 0, 0, 2, 3), 3);
        same(x, 0, 2, 3, 2, 3, 4);
        due("too many there", x.shift(0, 3, 1, 0, 3), -13);
        due("too many here", x.shift(0, 0, 1, 1, 3), -13);
        due("i -1", x.shift(0, -1, 1, 0, 1), -13);
        due("j -1", x.shift(0, 0, 1, -1, 1), -13);
        due("n -1", x.shift(0, 0, 1, 0, -1), -13);
        due("i behind the end", x.shift(0, 6, 1, 0, 0), -13);
        due("j behind the end", x.shift(0, 0, 1, 4, 0), -13);
        due("high", x.shift(0, HIGH, 1, HIGH, HIGH), -13);
        due("low", x.shift(0, LOW, 1, LOW, LOW), -13);
        due("i and n wrap", x.shift(0, 1, 1, 0, HIGH), -13);
        due("shelf 6", x.shift(6, 0, 1, 0, 1), BAD);
        due("other 6", x.shift(0, 0, 6, 0, 1), BAD);
        due("shelf -1", x.shift(-1, 0, 1, 0, 1), BAD);
        due("other -1", x.shift(3, 0, -1, 0, 1), BAD);
        due("nothing", x.shift(3, 0, 1, 0, 1), -11);
        due("nothing, the other", x.shift(0, 0, 3, 0, 1), -11);
        due("either ahead of -12", x.shift(5, 0, 3, 0, 1), -11);
        due("ladle", x.shift(5, 0, 0, 0, 1), -12);
        due("ladle, the other", x.shift(0, 0, 5, 0, 1), -12);
        due("unlike sorts", x.shift(0, 0, 2, 0, 1), -12);
        due("-12 ahead of -13", x.shift(0, 99, 2, 0, 1), -12);
        same(x, 0, 2, 3, 2, 3, 4);
        same(x, 1, 2, 3, 4);
        for (int sort = 1; sort < 5; sort++) {
            x.row(3, sort, 2);
            x.row(4, sort, 2);
            x.put(3, 0, 1);
            due("sort " + sort, x.shift(3, 0, 4, 1, 1), 1);
            due("sort " + sort, x.element(4, 1), 1);
        }
    }

    private static void same(SoupCourt x, int shelf, int... values) {
        for (int i = 0; i < values.length; i++) {
            due("shelf " + shelf + " at " + i, x.element(shelf, i), values[i]);
        }
    }

    private static void p38taken() {
        SoupCourt x = new SoupCourt();
        int[] above = {-1, 0, 0, 2, 1, 3, 0, 4};
        for (int kind = 0; kind < 8; kind++) {
            x.body(kind);
            x.keep(0, kind);
            for (int k = 0; k < 8; k++) {
                boolean under = false;
                for (int at = kind; at >= 0; at = above[at]) {
                    under |= at == k;
                }
                due("kind " + kind + " taken for " + k, x.taken(0, k), under ? kind : -12);
            }
        }
        due("k 8", x.taken(0, 8), BAD);
        due("k -1", x.taken(0, -1), BAD);
        due("shelf 6", x.taken(6, 0), BAD);
        due("shelf -1", x.taken(-1, 0), BAD);
        due("nothing", x.taken(1, 0), -11);
        due("BAD ahead of -11", x.taken(1, 8), BAD);
        x.row(1, 0, 1);
        due("a row", x.taken(1, 0), -12);
    }

    private static void p39count() {
        SoupCourt x = new SoupCourt();
        x.house();
        x.house();
        x.nose(1);
        x.nose(2);
        x.nose(3);
        x.feed('s');
        x.mend(0, 4, 1);
        x.mend(0, 4, 2);
        x.mend(0, 4, 3);
        x.mend(0, 4, 4);
        x.mend(0, 4, 5);
        x.undo();
        for (int i = 0; i < 6; i++) {
            x.body(7);
        }
        x.act(5, 3, 0);
        int[] due = {2, 3, 1, 4, 6, 14};
        for (int what = 0; what < 6; what++) {
            due("count " + what, x.count(what), due[what]);
        }
        due("6", x.count(6), BAD);
        due("-1", x.count(-1), BAD);
        due("low", x.count(LOW), BAD);
        due("high", x.count(HIGH), BAD);
    }
}
