import java.io.File;
import java.io.IOException;
import java.lang.reflect.Method;
import java.nio.file.Files;
import java.nio.file.Path;
import java.util.regex.Matcher;
import java.util.regex.Pattern;

/** README.md: its example answers what is written behind each call, and it names every call and every test. */
public final class ReadmeTest {
    private static final Pattern CALL = Pattern.compile("x\\.(\\w+)\\(([^)]*)\\);\\s*// (-?\\d+|true|false)\\b.*");

    public static void main(String[] args) throws IOException {
        String readme = Files.readString(Path.of("README.md"));
        example(readme);
        names(readme);
        Check.end();
    }

    private static void example(String readme) {
        int begin = readme.indexOf("```java\n") + 8;
        String[] lines = readme.substring(begin, readme.indexOf("```", begin)).split("\n");
        Check.same("the example begins", lines[0], "UnwindMill x = new UnwindMill();");
        UnwindMill x = new UnwindMill();
        for (int i = 1; i < lines.length; i++) {
            if (!lines[i].isEmpty()) {
                line(x, lines[i]);
            }
        }
    }

    private static void line(UnwindMill x, String line) {
        Matcher call = CALL.matcher(line);
        if (call.matches()) {
            Check.same(line, answer(x, call.group(1), call.group(2).split(", ")), call.group(3));
        } else {
            Check.same("a line of the example", line, "a call with its answer behind it");
        }
    }

    private static String answer(UnwindMill x, String name, String[] written) {
        for (Method m : UnwindMill.class.getMethods()) {
            if (m.getName().equals(name)) {
                return answer(x, m, written);
            }
        }
        return "there is no such call";
    }

    private static String answer(UnwindMill x, Method m, String[] written) {
        Object[] given = new Object[written.length];
        for (int i = 0; i < written.length; i++) {
            boolean truth = written[i].equals("true") || written[i].equals("false");
            given[i] = truth ? (Object) Boolean.valueOf(written[i]) : (Object) Integer.valueOf(written[i]);
        }
        try {
            return "" + m.invoke(x, given);
        } catch (ReflectiveOperationException | IllegalArgumentException e) {
            return "" + e;
        }
    }

    private static void names(String readme) {
        for (Method m : UnwindMill.class.getDeclaredMethods()) {
            if (java.lang.reflect.Modifier.isPublic(m.getModifiers())) {
                named(readme, m.getName());
            }
        }
        for (Class<?> inside : UnwindMill.class.getDeclaredClasses()) {
            named(readme, inside.getSimpleName());
        }
        File[] tests = new File("src/test/java").listFiles();
        Check.due("there are tests", tests != null && tests.length > 0, true);
        for (File test : tests) {
            named(readme, test.getName().replace(".java", ""));
        }
        Check.due("README.md says how to run the tests", readme.contains("\n.ci/run\n"), true);
    }

    private static void named(String readme, String name) {
        Check.due("README.md names " + name, readme.contains("`" + name + "`"), true);
    }
}
