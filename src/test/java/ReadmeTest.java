import java.io.IOException;
import java.lang.reflect.InvocationTargetException;
import java.lang.reflect.Method;
import java.nio.file.DirectoryStream;
import java.nio.file.Files;
import java.nio.file.Path;
import java.util.regex.Matcher;
import java.util.regex.Pattern;

/** README.md: each call under "Use" answers what stands behind it, and each test is named. */
final class ReadmeTest {
    private static final Pattern CALL =
            Pattern.compile("filler\\.(\\w+)\\((.*?)\\); +// (throws \\w+|-?\\w+)(:.*)?");

    private ReadmeTest() {
    }

    public static void main(String[] args) throws IOException {
        String readme = Files.readString(Path.of("README.md"));
        answersAsTold(readme);
        namesEachTest(readme);
        Check.holds("it tells how to run the tests", readme.contains("```sh\n.ci/run\n```"));
        Check.end();
    }

    private static void answersAsTold(String readme) {
        int begin = readme.indexOf("```java\n");
        int end = readme.indexOf("```\n", begin + 1);
        Check.holds("it has an example", begin >= 0 && end > begin);
        SlotFiller filler = new SlotFiller();
        int many = 0;
        for (String line : readme.substring(begin, end).split("\n")) {
            if (line.startsWith("filler.")) {
                Matcher call = CALL.matcher(line);
                Check.holds("to be read as a call: " + line, call.matches());
                if (call.matches()) {
                    String got = answer(filler, call.group(1), call.group(2).split(", *"));
                    Check.holds(line + " answered " + got, got.equals(due(call.group(3))));
                    many++;
                }
            }
        }
        Check.holds("the example has calls", many > 0);
    }

    private static String due(String told) {
        return told.startsWith("throws ") ? told : String.valueOf(number(told));
    }

    private static int number(String text) {
        return (int) (long) Long.decode(text);
    }

    private static String answer(SlotFiller filler, String name, String[] texts) {
        for (Method method : SlotFiller.class.getDeclaredMethods()) {
            if (method.getName().equals(name)) {
                return answer(filler, method, texts);
            }
        }
        return "there is no " + name;
    }

    private static String answer(SlotFiller filler, Method method, String[] texts) {
        Object[] values = new Object[method.getParameterCount()];
        for (int k = 0; k < values.length; k++) {
            boolean isInt = method.getParameterTypes()[k] == int.class;
            values[k] = isInt ? (Object) number(texts[k]) : (Object) Boolean.valueOf(texts[k]);
        }
        try {
            return String.valueOf(method.invoke(filler, values));
        } catch (InvocationTargetException e) {
            return "throws " + e.getCause().getClass().getSimpleName();
        } catch (IllegalAccessException e) {
            return e.toString();
        }
    }

    private static void namesEachTest(String readme) throws IOException {
        try (DirectoryStream<Path> files =
                Files.newDirectoryStream(Path.of("src/test/java"), "*.java")) {
            for (Path file : files) {
                String name = file.getFileName().toString().replace(".java", "");
                Check.holds(name + " is named", readme.contains("`" + name + "`"));
            }
        }
    }
}
