import java.lang.reflect.Method;
import java.nio.charset.StandardCharsets;
import java.nio.file.Files;
import java.nio.file.Path;
import java.util.Set;
import java.util.TreeSet;
import java.util.regex.Matcher;
import java.util.regex.Pattern;

/** The example and the table of errors in README.md tell what the class does. */
public final class ReadmeTest {
    private static final Pattern CALL = Pattern.compile("line\\.([A-Za-z]+)\\((.*)\\); +// (-?[0-9]+)(?:: (.*))?");
    private static final Pattern ERROR = Pattern.compile("\\| `([A-Z_]+)` \\| (-[0-9]+) \\| .+ \\|");
    private static final int LEAST_CALLS = 20;
    private static final int ERRORS = 4;
    private static int wrong = 0;

    private static void hold(boolean holds, String what) {
        if (!holds) {
            wrong++;
            System.out.println("README.md: " + what);
        }
    }

    public static void main(String[] args) throws Exception {
        String readme = Files.readString(Path.of("README.md"), StandardCharsets.UTF_8);
        example(readme);
        errors(readme);
        tests(readme);
        if (wrong != 0) {
            System.exit(1);
        }
        System.out.println("ReadmeTest: the example and the errors hold");
    }

    private static void example(String readme) throws Exception {
        String[] parts = readme.split("```java\n");
        hold(parts.length == 2, "there is one example");
        String[] lines = parts[parts.length - 1].split("```")[0].split("\n");
        hold(lines[0].startsWith("FourPhases line = new FourPhases();"), "the example makes an object");
        FourPhases line = new FourPhases();
        int calls = 0;
        for (int i = 1; i < lines.length; i++) {
            Matcher call = CALL.matcher(lines[i]);
            if (!call.matches()) {
                hold(false, "no call with its answer: " + lines[i]);
                continue;
            }
            calls++;
            int got = answer(line, call.group(1), call.group(2));
            int told = Integer.parseInt(call.group(3));
            hold(got == told, lines[i] + " answered " + got);
            namesConstant(call.group(4), told);
        }
        hold(calls >= LEAST_CALLS, "only " + calls + " calls in the example");
    }

    private static int answer(FourPhases line, String name, String arguments) throws Exception {
        String[] words = arguments.isEmpty() ? new String[0] : arguments.split(", ");
        Object[] values = new Object[words.length];
        for (int i = 0; i < words.length; i++) {
            boolean character = words[i].startsWith("'");
            values[i] = character ? (Object) words[i].charAt(1) : (Object) Integer.parseInt(words[i]);
        }
        for (Method method : FourPhases.class.getMethods()) {
            if (method.getName().equals(name)) {
                return (Integer) method.invoke(line, values);
            }
        }
        hold(false, "no method " + name);
        return 0;
    }

    /** An answer that is a constant is told with its name. */
    private static void namesConstant(String words, int answer) throws Exception {
        Matcher name = Pattern.compile("([A-Z_]{4,}).*").matcher(words == null ? "" : words);
        if (answer < 0 && answer > -100) {
            hold(name.matches() && constant(name.group(1)) == answer, answer + " is told as " + words);
        }
    }

    private static void errors(String readme) throws Exception {
        Set<String> told = new TreeSet<>();
        Matcher row = ERROR.matcher(readme);
        while (row.find()) {
            told.add(row.group(1));
            hold(constant(row.group(1)) == Integer.parseInt(row.group(2)), row.group());
        }
        hold(told.size() == ERRORS, "the table tells " + told);
    }

    private static int constant(String name) throws Exception {
        return FourPhases.class.getField(name).getInt(null);
    }

    /** Each test is told in README.md, by its own name or by the name that those of one kind share. */
    private static void tests(String readme) {
        String[] files = Path.of("src/test/java").toFile().list();
        hold(files != null && files.length > 0, "no tests are found");
        for (String file : files == null ? new String[0] : files) {
            String kind = file.endsWith("BoundsTest.java") ? "*BoundsTest.java" : file;
            hold(readme.contains("src/test/java/" + kind), "nothing on " + file);
        }
    }
}
