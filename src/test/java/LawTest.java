import java.util.BitSet;
import java.util.Random;

/**
 * THE LAW's texts against a second reading of the document that shares nothing with the class: a recogniser that follows
 * every way through the rules at once, a FAULT told straight from its definition, and values by cutting texts apart.
 */
public final class LawTest {
    private static int checks = 0, wrong = 0;
    private static SoupCourt court = new SoupCourt();
    private static int calls = 0;

    private static void due(String what, long got, long want) {
        checks++;
        if (got != want && wrong++ < 50) {
            System.out.println(what + ": answered " + got + ", due is " + want);
        }
    }

    public static void main(String[] args) {
        everyShortText("s1-!()+<", 6);
        everyShortText("t9*|&=>;?", 5);
        everyShortText("0123(", 6);
        everyShortText("(!-m", 9);
        textsWithOneFault(30000);
        valuesOfTexts(6000);
        System.out.println(checks + " checks, " + wrong + " wrong");
        if (wrong != 0) {
            System.exit(1);
        }
    }

    // ---- which texts there are

    private static void everyShortText(String signs, int longest) {
        char[] text = new char[longest];
        for (int length = 0; length <= longest; length++) {
            long all = (long) Math.pow(signs.length(), length);
            for (long code = 0; code < all; code++) {
                long rest = code;
                for (int i = 0; i < length; i++) {
                    text[i] = signs.charAt((int) (rest % signs.length()));
                    rest /= signs.length();
                }
                checkText(new String(text, 0, length));
            }
        }
    }

    private static void textsWithOneFault(int many) {
        Random random = new Random(1);
        for (int n = 0; n < many; n++) {
            StringBuilder text = new StringBuilder(randomText(random));
            if (n % 3 > 0 && text.length() > 0) {
                int at = random.nextInt(text.length());
                char sign = random.nextInt(4) == 0 ? (char) random.nextInt(256) : "stmfiw0123456789!-()+*/%<=>&|?;".charAt(random.nextInt(31));
                if (n % 3 == 1) {
                    text.setCharAt(at, sign);
                } else {
                    text.insert(at, sign);
                }
            }
            if (n % 10 == 0) {
                text.setLength(random.nextInt(text.length() + 1));
            }
            text.setLength(Math.min(120, text.length()));
            checkText(text.toString());
        }
    }

    private static void checkText(String text) {
        due("law " + text, read(text), isText(text) ? 1 : -100 - fault(text));
    }

    private static int read(String text) {
        calls += text.length() + 1;
        if (calls > 400) {
            court = new SoupCourt();
            calls = text.length() + 1;
        }
        for (int i = 0; i < text.length(); i++) {
            court.feed(text.charAt(i));
        }
        return court.law();
    }

    /** The first byte with which no TEXT goes on; the length, if it ends too early. */
    private static int fault(String text) {
        for (int at = 0; at < text.length(); at++) {
            if (!someTextBegins(text.substring(0, at + 1))) {
                return at;
            }
        }
        return text.length();
    }

    /** What is open can always be ended by ) or by a number and ) . */
    private static boolean someTextBegins(String begin) {
        String end = "";
        for (int closed = 0; closed <= 6; closed++) {
            if (isText(begin + end) || isText(begin + "1" + end)) {
                return true;
            }
            end += ")";
        }
        return false;
    }

    private static boolean isText(String text) {
        return lines(text, 0).get(text.length());
    }

    // Each of these answers all the places at which what is told can end, if it begins at a place.

    private static BitSet lines(String text, int from) {
        BitSet ends = line(text, from);
        for (int at = ends.nextSetBit(0); at >= 0; at = ends.nextSetBit(at + 1)) {
            if (is(text, at, ";")) {
                ends.or(line(text, at + 1));
            }
        }
        return ends;
    }

    private static BitSet line(String text, int from) {
        BitSet first = level(text, from, 0, 0);
        BitSet ends = (BitSet) first.clone();
        for (int at = first.nextSetBit(0); at >= 0; at = first.nextSetBit(at + 1)) {
            if (is(text, at, "?")) {
                ends.or(level(text, at + 1, 0, 0));
            }
        }
        return ends;
    }

    private static final String[] JOINS = {"|", "&", "<=>", "+-", "*/%"};

    private static BitSet level(String text, int from, int level, int open) {
        if (level == 5) {
            return o(text, from, open);
        }
        BitSet ends = level(text, from, level + 1, open);
        BitSet first = (BitSet) ends.clone();
        for (int at = ends.nextSetBit(0); at >= 0; at = ends.nextSetBit(at + 1)) {
            if (is(text, at, JOINS[level]) && (level != 2 || first.get(at))) {
                BitSet more = level(text, at + 1, level + 1, open);
                if (level == 2) {
                    more.andNot(first);
                }
                ends.or(more);
            }
        }
        return ends;
    }

    private static BitSet o(String text, int from, int open) {
        BitSet ends = new BitSet();
        for (int n = 1; n <= 4 && is(text, from + n - 1, "0123456789"); n++) {
            ends.set(from + n);
        }
        if (is(text, from, "stmfiw")) {
            ends.set(from + 1);
        }
        if (is(text, from, "!-") && open < 6) {
            ends.or(o(text, from + 1, open + 1));
        }
        if (is(text, from, "(") && open < 6) {
            BitSet inner = level(text, from + 1, 0, open + 1);
            for (int at = inner.nextSetBit(0); at >= 0; at = inner.nextSetBit(at + 1)) {
                if (is(text, at, ")")) {
                    ends.set(at + 1);
                }
            }
        }
        return ends;
    }

    private static boolean is(String text, int at, String signs) {
        return at >= 0 && at < text.length() && signs.indexOf(text.charAt(at)) >= 0;
    }

    // ---- what they are worth

    private static void valuesOfTexts(int many) {
        Random random = new Random(2);
        for (int n = 0; n < many; n++) {
            SoupCourt x = new SoupCourt();
            int[] strength = new int[40];
            int[] mix = new int[8];
            for (int i = 0; i < 40; i++) {
                strength[i] = random.nextInt(10);
                x.mend(i / 5 * 10 + i % 5, 0, strength[i]);
            }
            x.row(0, 0, 8);
            for (int i = 0; i < 8; i++) {
                mix[i] = random.nextInt(3) == 0 ? random.nextInt(10) : 0;
                x.put(0, i, mix[i]);
            }
            int fire = random.nextInt(10);
            x.mend(0, 4, fire);
            String text = randomText(random);
            for (int i = 0; i < text.length(); i++) {
                x.feed(text.charAt(i));
            }
            due("law " + text, x.law(), 1);
            int minutes = random.nextInt(8);
            for (int taste = 0; taste < 5; taste++) {
                due("by " + text, x.taste(0, minutes, taste), tasteBy(text, strength, mix, fire, taste, minutes));
            }
        }
    }

    private static int tasteBy(String text, int[] strength, int[] mix, int fire, int taste, int minutes) {
        int s = 0;
        int w = 0;
        for (int i = 0; i < 8; i++) {
            s += mix[i] * strength[5 * i + taste];
            w += mix[i];
        }
        int t = 0;
        for (int m = 0; m < minutes; m++) {
            int grows = worth(text, new int[] {s, t, m, fire, taste, w});
            grows = grows > 20 ? 20 : grows < -20 ? -20 : grows;
            t += grows;
            t = t > 99 ? 99 : t < 0 ? 0 : t;
        }
        return t;
    }

    private static int worth(String text, int[] names) {
        for (String line : text.split(";")) {
            int mark = line.indexOf('?');
            if (mark < 0 || value(line.substring(0, mark), names) != 0) {
                return value(line.substring(mark + 1), names);
            }
        }
        return 0;
    }

    /** Cut at the last sign that binds least and stands in no parenthesis; a sign joins if an operand ends ahead of it. */
    private static int value(String e, int[] names) {
        for (String joins : JOINS) {
            int inner = 0;
            for (int at = e.length() - 1; at > 0; at--) {
                char sign = e.charAt(at);
                inner += sign == ')' ? 1 : sign == '(' ? -1 : 0;
                boolean joinsHere = inner == 0 && joins.indexOf(sign) >= 0 && "+-*/%<=>&|!(".indexOf(e.charAt(at - 1)) < 0;
                if (joinsHere) {
                    return join(sign, value(e.substring(0, at), names), value(e.substring(at + 1), names));
                }
            }
        }
        char first = e.charAt(0);
        if (first == '!') {
            return value(e.substring(1), names) == 0 ? 1 : 0;
        }
        if (first == '-') {
            return -value(e.substring(1), names);
        }
        if (first == '(') {
            return value(e.substring(1, e.length() - 1), names);
        }
        return Character.isDigit(first) ? Integer.parseInt(e) : names["stmfiw".indexOf(first)];
    }

    private static int join(char sign, int a, int b) {
        switch (sign) {
            case '|': return a != 0 | b != 0 ? 1 : 0;
            case '&': return a != 0 & b != 0 ? 1 : 0;
            case '<': return a < b ? 1 : 0;
            case '=': return a == b ? 1 : 0;
            case '>': return a > b ? 1 : 0;
            case '+': return a + b;
            case '-': return a - b;
            case '*': return a * b;
            case '/': return b == 0 ? 0 : (int) ((long) a / b);
            default: return b == 0 ? 0 : (int) ((long) a % b);
        }
    }

    // ---- texts by chance

    private static String randomText(Random random) {
        while (true) {
            StringBuilder text = new StringBuilder();
            int lines = 1 + random.nextInt(3);
            for (int i = 0; i < lines; i++) {
                text.append(i > 0 ? ";" : "");
                text.append(random.nextInt(3) > 0 ? randomE(random, 0, 0) + "?" : "").append(randomE(random, 0, 0));
            }
            if (text.length() <= 120) {
                return text.toString();
            }
        }
    }

    private static String randomE(Random random, int level, int open) {
        if (level == 5) {
            int pick = random.nextInt(open < 6 ? 12 : 8);
            if (pick < 5) {
                return "" + "stmfiw".charAt(random.nextInt(6));
            }
            if (pick < 8) {
                return "" + random.nextInt(new int[] {3, 10, 100, 10000}[random.nextInt(4)]);
            }
            return pick < 10 ? "(" + randomE(random, 0, open + 1) + ")" : (pick < 11 ? "!" : "-") + randomE(random, 5, open + 1);
        }
        StringBuilder text = new StringBuilder(randomE(random, level + 1, open));
        int more = random.nextInt(level < 3 ? 8 : 4) == 0 ? level == 2 ? 1 : 1 + random.nextInt(3) : 0;
        for (int i = 0; i < more; i++) {
            text.append(JOINS[level].charAt(random.nextInt(JOINS[level].length()))).append(randomE(random, level + 1, open));
        }
        return text.toString();
    }
}
