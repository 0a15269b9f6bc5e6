import java.lang.reflect.Constructor;
import java.lang.reflect.Field;
import java.lang.reflect.Method;
import java.lang.reflect.Modifier;
import java.nio.file.Files;
import java.nio.file.Path;
import java.util.ArrayList;
import java.util.List;
import java.util.Set;
import java.util.TreeSet;
import java.util.regex.Matcher;
import java.util.regex.Pattern;

/** The face that the document tells, and those rules of LANGUAGE.md that can be seen from the file or the class. */
public final class FaceTest {
    private static final String SOURCE = "src/main/java/SoupCourt.java", DOCUMENT = "../shared/DOC.md";
    private static int checks = 0, wrong = 0;

    private static void holds(boolean it, String what) {
        checks++;
        if (!it) {
            wrong++;
            System.out.println("does not hold: " + what);
        }
    }

    public static void main(String[] args) throws Exception {
        String source = Files.readString(Path.of(SOURCE));
        Set<String> calls = theFace(Files.readString(Path.of(DOCUMENT)));
        theClasses(calls);
        theWords(source.replaceAll("(?s)/\\*.*?\\*/", "").replaceAll("//.*", ""));
        System.out.println(checks + " checks, " + wrong + " wrong");
        if (wrong != 0) {
            System.exit(1);
        }
    }

    /** What is not private is just what stands in the document; its calls' names. */
    private static Set<String> theFace(String document) {
        Set<String> due = new TreeSet<>();
        Set<String> names = new TreeSet<>();
        Matcher call = Pattern.compile("(?m)^    public (int|long) (\\w+)\\((.*)\\);$").matcher(document);
        while (call.find()) {
            due.add(call.group(1) + " " + call.group(2) + "(" + call.group(3).replaceAll(" \\w+(, |$)", "$1") + ")");
            names.add(call.group(2));
        }
        holds(due.size() == 38, "the document has 38 calls beside the constructor: " + due.size());
        Set<String> has = new TreeSet<>();
        for (Method method : SoupCourt.class.getDeclaredMethods()) {
            if (!Modifier.isPrivate(method.getModifiers())) {
                holds(Modifier.isPublic(method.getModifiers()) && !Modifier.isStatic(method.getModifiers()), "public: " + method);
                List<String> types = new ArrayList<>();
                for (Class<?> type : method.getParameterTypes()) {
                    types.add(type.getName());
                }
                has.add(method.getReturnType().getName() + " " + method.getName() + "(" + String.join(", ", types) + ")");
            }
        }
        holds(has.equals(due), "the calls are the document's: " + has);
        Set<String> constants = new TreeSet<>();
        for (Field field : SoupCourt.class.getDeclaredFields()) {
            if (!Modifier.isPrivate(field.getModifiers())) {
                constants.add(Modifier.toString(field.getModifiers()) + " " + field.getType() + " " + field.getName());
            }
        }
        Set<String> told = new TreeSet<>();
        for (String name : new String[] {"BAD", "NOT", "FULL", "STATE", "VOID"}) {
            told.add("public static final int " + name);
        }
        holds(constants.equals(told), "the constants are the document's: " + constants);
        Constructor<?>[] made = SoupCourt.class.getDeclaredConstructors();
        holds(made.length == 1 && Modifier.isPublic(made[0].getModifiers()) && made[0].getParameterCount() == 0, "one constructor");
        holds(Modifier.toString(SoupCourt.class.getModifiers()).equals("public final"), "public and final");
        return names;
    }

    private static void theClasses(Set<String> calls) {
        Class<?>[] inside = SoupCourt.class.getDeclaredClasses();
        holds(inside.length <= 12, "some twelve classes");
        checkClass(SoupCourt.class, calls);
        for (Class<?> each : inside) {
            holds(Modifier.isStatic(each.getModifiers()) && !Modifier.isPublic(each.getModifiers()) && !Modifier.isProtected(each.getModifiers()), "static and not public: " + each);
            checkClass(each, calls);
        }
    }

    private static void checkClass(Class<?> each, Set<String> calls) {
        int fields = 0;
        for (Field field : each.getDeclaredFields()) {
            if (Modifier.isStatic(field.getModifiers())) {
                holds(Modifier.isFinal(field.getModifiers()), "final: " + field);
                holds(Set.of(int.class, long.class, boolean.class, char.class, String.class, int[].class).contains(field.getType()), "a constant: " + field);
            } else {
                fields++;
            }
        }
        holds(fields <= 20, "some twenty fields: " + each + " " + fields);
        for (Method method : each.getDeclaredMethods()) {
            holds(method.getParameterCount() <= 7, "seven parameters: " + method);
            boolean isFace = each == SoupCourt.class && Modifier.isPublic(method.getModifiers());
            holds(isFace || !calls.contains(method.getName()), "bears the name of a public one: " + method);
            holds(!method.isSynthetic(), "no lambda: " + method);
        }
    }

    private static void theWords(String code) {
        String[] none = {
            "throw", "throws", "try", "catch", "finally", "synchronized", "assert", "package", "protected", "transient", "volatile", "native",
            "equals", "hashCode", "toString", "Object", "Exception", "Error", "Random", "System\\.(?!arraycopy)", "Thread", "\\w+Exact", "import (?!java\\.util\\.Arrays;)",
            "static \\{", "->", "::", "@",
        };
        for (String word : none) {
            String within = Character.isLetter(word.charAt(0)) ? "\\b" + word + (word.endsWith(")") || word.endsWith("{") ? "" : "\\b") : word;
            holds(!Pattern.compile(within).matcher(code).find(), "no " + word);
        }
        holds(code.chars().allMatch(sign -> sign < 128), "plain signs alone");
        Matcher endless = Pattern.compile("\\bwhile\\b|for \\(;;|for \\([^;]*;\\s*;").matcher(code);
        holds(!endless.find(), "every loop has a bound in its own line");
        int begun = 0;
        String[] lines = code.split("\n");
        for (int i = 0; i < lines.length; i++) {
            if (lines[i].matches("( {4}| {8})(public|private|static|int|boolean|void|long)[^=;]*\\(.*\\) \\{")) {
                begun = i;
            } else if (lines[i].matches("( {4}| {8})\\}")) {
                holds(lines[begun].contains(" class ") || i - begun <= 60, "sixty lines: " + lines[begun].trim());
            }
        }
    }
}
