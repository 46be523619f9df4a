import java.io.IOException;
import java.lang.reflect.Field;
import java.lang.reflect.Method;
import java.lang.reflect.Modifier;
import java.nio.file.Files;
import java.nio.file.Path;
import java.util.ArrayList;
import java.util.HashMap;
import java.util.HashSet;
import java.util.List;
import java.util.Map;
import java.util.Set;
import java.util.regex.Matcher;
import java.util.regex.Pattern;

/**
 * The rules of LANGUAGE.md, as far as the class and its text tell. Where a rule leaves more than
 * this class needs (no try, no while, no library but Math), the test asks for less.
 */
final class LanguageTest {
    private static final Path SOURCE = Path.of("src/main/java/SlotFiller.java");
    private static final Set<String> PUBLIC_NAMES = Set.of("latency", "add", "schedule", "word",
            "from", "depends", "height", "cycles", "count");
    private static final Set<Class<?>> CONSTANTS = Set.of(int.class, long.class, boolean.class,
            char.class, String.class, int[].class, long[].class, char[].class, byte[].class);
    private static final Set<Class<?>> NUMBERS = Set.of(void.class, int.class, long.class,
            boolean.class, int[].class, long[].class, boolean[].class);
    private static final Set<String> NOT_WANTED = Set.of("import", "package", "synchronized",
            "assert", "try", "catch", "finally", "while", "do", "protected", "volatile", "native",
            "Thread", "Object", "equals", "hashCode", "toString", "double", "float");
    private static final String THROWN = "throw new (IllegalStateException"
            + "|IllegalArgumentException|IndexOutOfBoundsException)\\(\"[^\"]+\"\\);";
    private static final Pattern METHOD = Pattern.compile(
            "( {4}| {8})(?!return|new|else)(?:\\w+(?:\\[\\])? )*(\\w+)\\([^;]*\\)[^;]* \\{");
    private static final Pattern CALL = Pattern.compile("(?:(\\w+)\\.)?(\\w+)\\(");
    private static final Map<String, String> HOLDERS =
            Map.of("block", "Block", "order", "Order", "outcome", "Outcome");

    private LanguageTest() {
    }

    public static void main(String[] args) throws IOException {
        List<Class<?>> classes = new ArrayList<>(List.of(SlotFiller.class.getDeclaredClasses()));
        String text = Files.readString(SOURCE);
        String code = text.replaceAll("(?s)/\\*.*?\\*/", "").replaceAll("//[^\n]*", "");
        Map<String, String> bodies = bodies(code);
        Check.sentence("rule 1", () -> classesInside(classes));
        Check.sentence("rule 3", () -> types(classes));
        Check.sentence("rule 4", () -> library(code, classes));
        Check.sentence("rule 5", () -> staticFields(classes, code));
        Check.sentence("rule 6", () -> exceptions(code, bodies));
        Check.sentence("rules 2, 3, 6, 10, 13", () -> words(code));
        Check.sentence("rule 9", () -> loops(code));
        Check.sentence("rule 11", () -> sizes(classes, bodies));
        Check.sentence("rules 8 and 11", () -> depths(bodies));
        Check.end();
    }

    private static void classesInside(List<Class<?>> classes) {
        for (Class<?> inside : classes) {
            int modifiers = inside.getModifiers();
            Check.holds(inside + " is static, and private or package-visible",
                    Modifier.isStatic(modifiers) && !Modifier.isPublic(modifiers)
                            && !Modifier.isProtected(modifiers));
            for (Method method : inside.getDeclaredMethods()) {
                Check.holds(method + " bears no public method's name",
                        !PUBLIC_NAMES.contains(method.getName()));
            }
        }
        for (Method method : SlotFiller.class.getDeclaredMethods()) {
            Check.holds(method + " is of the face", PUBLIC_NAMES.contains(method.getName()));
        }
    }

    private static void types(List<Class<?>> classes) {
        for (Class<?> one : withTheFace(classes)) {
            for (Field field : one.getDeclaredFields()) {
                isKnown(field.toString(), field.getType(), classes);
            }
            for (Method method : one.getDeclaredMethods()) {
                isKnown(method.toString(), method.getReturnType(), classes);
                for (Class<?> type : method.getParameterTypes()) {
                    isKnown(method.toString(), type, classes);
                }
            }
        }
    }

    private static void isKnown(String where, Class<?> type, List<Class<?>> classes) {
        Check.holds(where + " has a type of rule 3",
                NUMBERS.contains(type) || classes.contains(type));
    }

    private static List<Class<?>> withTheFace(List<Class<?>> classes) {
        List<Class<?>> all = new ArrayList<>(classes);
        all.add(SlotFiller.class);
        return all;
    }

    private static void library(String code, List<Class<?>> classes) {
        Set<String> own = new HashSet<>();
        for (Class<?> inside : classes) {
            own.add(inside.getSimpleName());
        }
        Matcher call = Pattern.compile("\\b([A-Z][a-z]\\w*)\\.(\\w+)\\(").matcher(code);
        while (call.find()) {
            Check.holds(call.group() + " is of its own or Math's",
                    own.contains(call.group(1)) || call.group().equals("Math.max("));
        }
        Matcher made = Pattern.compile("\\bnew (\\w+)\\(").matcher(code);
        while (made.find()) {
            Check.holds(made.group() + " is of its own or an exception",
                    own.contains(made.group(1)) || made.group(1).endsWith("Exception"));
        }
    }

    private static void staticFields(List<Class<?>> classes, String code) {
        for (Class<?> one : withTheFace(classes)) {
            for (Field field : one.getDeclaredFields()) {
                if (Modifier.isStatic(field.getModifiers())) {
                    Check.holds(field + " is final, and a constant",
                            Modifier.isFinal(field.getModifiers())
                                    && CONSTANTS.contains(field.getType()));
                }
            }
        }
        Check.holds("no static block", !Pattern.compile("static\\s*\\{").matcher(code).find());
    }

    private static void exceptions(String code, Map<String, String> bodies) {
        Matcher thrown = Pattern.compile("\\bthrow\\b[^;]*;").matcher(code);
        int many = 0;
        while (thrown.find()) {
            Check.holds(thrown.group() + " is a written text of a listed class",
                    thrown.group().matches(THROWN));
            many++;
        }
        Check.same("throws: two of latency and add each, one of four others", 8, many);
        String constructor = bodies.get("SlotFiller.SlotFiller");
        Check.holds("none in the constructor",
                constructor != null && !constructor.contains("throw"));
    }

    private static void words(String code) {
        String bare = code.replaceAll("\"[^\"\n]*\"", "\"\"");
        for (String word : NOT_WANTED) {
            Check.holds("no " + word, !Pattern.compile("\\b" + word + "\\b").matcher(bare).find());
        }
        Check.holds("no lambda, no reference to a method",
                !bare.contains("->") && !bare.contains("::"));
        Check.holds("no text joined by +", !bare.contains("\" +") && !bare.contains("+ \""));
        for (char c : code.toCharArray()) {
            if (c != '\n' && (c < ' ' || c > '~')) {
                Check.holds("a character " + (int) c, false);
            }
        }
    }

    /** Each a counter that goes by one, against a bound. */
    private static void loops(String code) {
        Matcher loop = Pattern.compile("\\bfor \\([^{]*\\{").matcher(code);
        while (loop.find()) {
            Check.holds(loop.group(), loop.group().matches(
                    "for \\(int (\\w+) = [^;]+; \\1 (<|>=) [^;]+; \\1(\\+\\+|--)\\) \\{"));
        }
    }

    private static void sizes(List<Class<?>> classes, Map<String, String> bodies) {
        Check.holds("at most twelve classes", withTheFace(classes).size() <= 12);
        for (Class<?> one : withTheFace(classes)) {
            int fields = 0;
            for (Field field : one.getDeclaredFields()) {
                fields += Modifier.isStatic(field.getModifiers()) ? 0 : 1;
            }
            Check.holds(one + " has " + fields + " fields", fields <= 20);
            for (Method method : one.getDeclaredMethods()) {
                Check.holds(method + " takes at most seven", method.getParameterCount() <= 7);
                Check.holds(method + " was found in the text",
                        bodies.containsKey(one.getSimpleName() + "." + method.getName()));
            }
        }
        bodies.forEach((name, body) -> Check.holds(name + " has at most sixty lines",
                body.split("\n").length <= 60));
    }

    /** The text of each method, by "Class.method", its own line first. */
    private static Map<String, String> bodies(String code) {
        Map<String, String> bodies = new HashMap<>();
        String inside = "SlotFiller";
        String name = "";
        String end = "";
        for (String line : code.split("\n")) {
            Matcher type = Pattern.compile(" {4}private static final class (\\w+) \\{")
                    .matcher(line);
            Matcher method = METHOD.matcher(line);
            if (type.matches()) {
                inside = type.group(1);
            } else if (end.isEmpty() && method.matches()) {
                name = inside + "." + method.group(2);
                end = method.group(1) + "}";
                bodies.put(name, "");
            }
            if (!end.isEmpty()) {
                bodies.merge(name, line + "\n", String::concat);
            }
            if (line.equals(end)) {
                end = "";
            } else if (line.equals("    }")) {
                inside = "SlotFiller";
            }
        }
        return bodies;
    }

    private static void depths(Map<String, String> bodies) {
        for (String name : bodies.keySet()) {
            int depth = depth(name, bodies, 1);
            Check.holds(name + " calls " + depth + " deep", depth <= 8);
        }
    }

    /** The greatest depth from here on; one that calls itself would come to more than any due. */
    private static int depth(String name, Map<String, String> bodies, int above) {
        int most = above;
        String body = bodies.get(name);
        Matcher call = CALL.matcher(body.substring(body.indexOf('\n')));
        while (above <= 20 && call.find()) {
            String holder = call.group(1) == null
                    ? name.substring(0, name.indexOf('.'))
                    : HOLDERS.getOrDefault(call.group(1), call.group(1));
            String called = holder + "." + call.group(2);
            int deeper = bodies.containsKey(called) ? depth(called, bodies, above + 1) : above + 1;
            most = Math.max(most, deeper);
        }
        return most;
    }
}
