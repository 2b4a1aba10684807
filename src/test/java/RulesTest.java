import java.lang.reflect.Constructor;
import java.lang.reflect.Field;
import java.lang.reflect.Method;
import java.lang.reflect.Modifier;
import java.nio.charset.StandardCharsets;
import java.nio.file.Files;
import java.nio.file.Path;
import java.util.Arrays;
import java.util.Set;
import java.util.TreeSet;

/** The rules of LANGUAGE.md that can be seen from outside: the face, the kinds of fields, and words that are ruled out. */
public final class RulesTest {
    private static final String[] FACE = {"add(int,int)", "build(int)", "clearText()", "dearest()", "finish()",
        "ifLead(int,int)", "keep()", "leastLead()", "link(int,int)", "next()", "noted(int,int)", "perform()",
        "quietIn()", "restore()", "run(int)", "set(int,int)", "setDelay(int,int,int)", "stage(int)", "total(int)",
        "type(char)", "undo()", "waiting(int,int)"};
    private static final String[] CONSTANTS = {"FULL", "NONE", "OUT_OF_RANGE", "UNKNOWN"};
    private static final String[] RULED_OUT = {"throw", "try", "catch", "synchronized", "assert", "import", "package",
        "Exception", "Exact", "->", "::", "protected", "Math.random", "currentTimeMillis", "nanoTime", "Thread",
        "hashCode", "toString", "equals"};
    private static final int MOST_LINES = 60;
    private static final int MOST_FIELDS = 20;
    private static final int MOST_CLASSES = 12;
    private static final int MOST_PARAMETERS = 7;
    private static int wrong = 0;

    private static void hold(boolean holds, String what) {
        if (!holds) {
            wrong++;
            System.out.println("rule broken: " + what);
        }
    }

    public static void main(String[] args) throws Exception {
        face();
        classes();
        words(Files.readString(Path.of("src/main/java/FourPhases.java"), StandardCharsets.ISO_8859_1));
        if (wrong != 0) {
            System.exit(1);
        }
        System.out.println("RulesTest: all rules hold");
    }

    private static void face() {
        Set<String> methods = new TreeSet<>();
        Set<String> names = new TreeSet<>();
        for (Method m : FourPhases.class.getDeclaredMethods()) {
            if (Modifier.isPrivate(m.getModifiers())) {
                continue;
            }
            hold(m.getReturnType() == int.class && !Modifier.isStatic(m.getModifiers()), m.toString());
            names.add(m.getName());
            StringBuilder parameters = new StringBuilder();
            for (Class<?> p : m.getParameterTypes()) {
                parameters.append(parameters.length() == 0 ? "" : ",").append(p.getName());
            }
            methods.add(m.getName() + "(" + parameters + ")");
        }
        hold(methods.equals(new TreeSet<>(Arrays.asList(FACE))), "methods " + methods);
        for (Class<?> c : allClasses()) {
            for (Method m : c.getDeclaredMethods()) {
                boolean inFace = c == FourPhases.class && !Modifier.isPrivate(m.getModifiers());
                hold(inFace || !names.contains(m.getName()), "the name of a public method: " + m);
            }
        }
        Set<String> fields = new TreeSet<>();
        for (Field f : FourPhases.class.getDeclaredFields()) {
            if (!Modifier.isPrivate(f.getModifiers())) {
                fields.add(f.getName());
            }
        }
        hold(fields.equals(new TreeSet<>(Arrays.asList(CONSTANTS))), "fields " + fields);
        Constructor<?>[] constructors = FourPhases.class.getDeclaredConstructors();
        hold(constructors.length == 1 && constructors[0].getParameterCount() == 0
            && Modifier.isPublic(constructors[0].getModifiers()), "the constructor");
        hold(Modifier.isFinal(FourPhases.class.getModifiers()), "the class is final");
    }

    private static Class<?>[] allClasses() {
        Class<?>[] inside = FourPhases.class.getDeclaredClasses();
        Class<?>[] all = Arrays.copyOf(inside, inside.length + 1);
        all[inside.length] = FourPhases.class;
        return all;
    }

    private static void classes() {
        hold(allClasses().length <= MOST_CLASSES, "classes");
        for (Class<?> c : allClasses()) {
            hold(c == FourPhases.class || Modifier.isStatic(c.getModifiers()), "not static: " + c);
            int fields = 0;
            for (Field f : c.getDeclaredFields()) {
                if (Modifier.isStatic(f.getModifiers())) {
                    hold(Modifier.isFinal(f.getModifiers()) && f.getType() == int.class, "static " + f);
                } else {
                    fields++;
                }
            }
            hold(fields <= MOST_FIELDS, "fields of " + c);
            for (Method m : c.getDeclaredMethods()) {
                hold(m.getParameterCount() <= MOST_PARAMETERS, "parameters of " + m);
            }
        }
    }

    private static void words(String source) {
        String code = source.replaceAll("(?s)/\\*.*?\\*/", "").replaceAll("//[^\n]*", "");
        for (String word : RULED_OUT) {
            boolean isName = Character.isLetter(word.charAt(0));
            String pattern = isName ? "(?s).*\\b" + word + "\\b.*" : "(?s).*" + word + ".*";
            hold(!code.matches(pattern), "the word " + word);
        }
        int start = 0;
        String[] lines = source.split("\n");
        for (int i = 0; i < lines.length; i++) {
            for (int k = 0; k < lines[i].length(); k++) {
                hold(lines[i].charAt(k) < 128, "a sign in line " + (i + 1));
            }
            if (lines[i].matches("( {4}){1,2}[A-Za-z].*\\) \\{")) {
                start = i;
            }
            if (lines[i].matches("( {4}){1,2}\\}")) {
                hold(i - start < MOST_LINES || lines[start].contains("class"), "a long method at line " + (start + 1));
            }
        }
    }
}
