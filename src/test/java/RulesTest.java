import java.lang.reflect.Array;
import java.lang.reflect.Constructor;
import java.lang.reflect.Field;
import java.lang.reflect.Method;
import java.lang.reflect.Modifier;
import java.nio.charset.StandardCharsets;
import java.nio.file.Files;
import java.nio.file.Path;
import java.util.ArrayDeque;
import java.util.Arrays;
import java.util.IdentityHashMap;
import java.util.Map;
import java.util.Set;
import java.util.TreeMap;
import java.util.TreeSet;
import java.util.regex.Matcher;
import java.util.regex.Pattern;

/** The rules of LANGUAGE.md that can be seen from outside: the face, the kinds of fields, and words that are ruled out. */
public final class RulesTest {
    private static final String[] FACE = {"add(int,int)", "build(int)", "clearText()", "dearest()", "finish()",
        "ifLead(int,int)", "keep()", "leastLead()", "link(int,int)", "next()", "noted(int,int)", "perform()",
        "quietIn()", "restore()", "run(int)", "set(int,int)", "setDelay(int,int,int)", "stage(int)", "total(int)",
        "type(char)", "undo()", "waiting(int,int)"};
    private static final String[] CONSTANTS = {"FULL", "NONE", "OUT_OF_RANGE", "UNKNOWN"};
    private static final String[] RULED_OUT = {"throw", "try", "catch", "synchronized", "assert", "import", "package",
        "Exception", "Exact", "->", "::", "protected", "Math.random", "currentTimeMillis", "nanoTime", "Thread",
        "hashCode", "toString", "equals"};
    private static final int MOST_LINES = 60;
    private static final int MOST_FIELDS = 20;
    private static final int MOST_CLASSES = 12;
    private static final int MOST_PARAMETERS = 7;
    private static final int DEEPEST_CALLS = 8;
    /** The room of a run holds a thousand objects of the class then. */
    private static final int MOST_OBJECTS = 600;
    private static final int MOST_ELEMENTS = 7300;
    private static int wrong = 0;

    private static void hold(boolean holds, String what) {
        if (!holds) {
            wrong++;
            System.out.println("rule broken: " + what);
        }
    }

    public static void main(String[] args) throws Exception {
        face();
        classes();
        String source = Files.readString(Path.of("src/main/java/FourPhases.java"), StandardCharsets.ISO_8859_1);
        words(source);
        madeInConstructorsAlone(source);
        depthOfCalls(source);
        room();
        if (wrong != 0) {
            System.exit(1);
        }
        System.out.println("RulesTest: all rules hold");
    }

    private static void face() {
        Set<String> methods = new TreeSet<>();
        Set<String> names = new TreeSet<>();
        for (Method m : FourPhases.class.getDeclaredMethods()) {
            if (Modifier.isPrivate(m.getModifiers())) {
                continue;
            }
            hold(m.getReturnType() == int.class && !Modifier.isStatic(m.getModifiers()), m.toString());
            names.add(m.getName());
            StringBuilder parameters = new StringBuilder();
            for (Class<?> p : m.getParameterTypes()) {
                parameters.append(parameters.length() == 0 ? "" : ",").append(p.getName());
            }
            methods.add(m.getName() + "(" + parameters + ")");
        }
        hold(methods.equals(new TreeSet<>(Arrays.asList(FACE))), "methods " + methods);
        for (Class<?> c : allClasses()) {
            for (Method m : c.getDeclaredMethods()) {
                boolean inFace = c == FourPhases.class && !Modifier.isPrivate(m.getModifiers());
                hold(inFace || !names.contains(m.getName()), "the name of a public method: " + m);
            }
        }
        Set<String> fields = new TreeSet<>();
        for (Field f : FourPhases.class.getDeclaredFields()) {
            if (!Modifier.isPrivate(f.getModifiers())) {
                fields.add(f.getName());
            }
        }
        hold(fields.equals(new TreeSet<>(Arrays.asList(CONSTANTS))), "fields " + fields);
        Constructor<?>[] constructors = FourPhases.class.getDeclaredConstructors();
        hold(constructors.length == 1 && constructors[0].getParameterCount() == 0
            && Modifier.isPublic(constructors[0].getModifiers()), "the constructor");
        hold(Modifier.isFinal(FourPhases.class.getModifiers()), "the class is final");
    }

    private static Class<?>[] allClasses() {
        Class<?>[] inside = FourPhases.class.getDeclaredClasses();
        Class<?>[] all = Arrays.copyOf(inside, inside.length + 1);
        all[inside.length] = FourPhases.class;
        return all;
    }

    private static void classes() {
        hold(allClasses().length <= MOST_CLASSES, "classes");
        for (Class<?> c : allClasses()) {
            hold(c == FourPhases.class || Modifier.isStatic(c.getModifiers()), "not static: " + c);
            int fields = 0;
            for (Field f : c.getDeclaredFields()) {
                if (Modifier.isStatic(f.getModifiers())) {
                    hold(Modifier.isFinal(f.getModifiers()) && f.getType() == int.class, "static " + f);
                } else {
                    fields++;
                    hold(isNumbersOrOwn(f.getType()), "the kind of " + f);
                }
            }
            hold(fields <= MOST_FIELDS, "fields of " + c);
            for (Method m : c.getDeclaredMethods()) {
                hold(m.getParameterCount() <= MOST_PARAMETERS, "parameters of " + m);
            }
        }
    }

    /** A text would hold characters up to 255 alone, and any may be typed: so there is none, and no row of them. */
    private static boolean isNumbersOrOwn(Class<?> type) {
        Class<?> kind = type.isArray() ? type.getComponentType() : type;
        return kind == int.class || type == boolean.class || Arrays.asList(allClasses()).contains(kind);
    }

    private static void words(String source) {
        String code = source.replaceAll("(?s)/\\*.*?\\*/", "").replaceAll("//[^\n]*", "");
        for (String word : RULED_OUT) {
            boolean isName = Character.isLetter(word.charAt(0));
            String pattern = isName ? "(?s).*\\b" + word + "\\b.*" : "(?s).*" + word + ".*";
            hold(!code.matches(pattern), "the word " + word);
        }
        int start = 0;
        String[] lines = source.split("\n");
        for (int i = 0; i < lines.length; i++) {
            for (int k = 0; k < lines[i].length(); k++) {
                hold(lines[i].charAt(k) < 128, "a sign in line " + (i + 1));
            }
            if (lines[i].matches("( {4}){1,2}[A-Za-z].*\\) \\{")) {
                start = i;
            }
            if (lines[i].matches("( {4}){1,2}\\}")) {
                hold(i - start < MOST_LINES || lines[start].contains("class"), "a long method at line " + (start + 1));
            }
        }
    }

    /** No text and no list, so that nothing but "new" makes an object; and it stands in fields and constructors alone. */
    private static void madeInConstructorsAlone(String source) {
        String method = "";
        for (String line : source.split("\n")) {
            if (line.matches("( {4}){1,2}[A-Za-z].*\\) \\{")) {
                method = line.trim();
            }
            boolean comment = line.trim().startsWith("*") || line.trim().startsWith("/");
            if (line.contains("new ") && !comment) {
                boolean field = line.matches(" +final .* = new .*;");
                boolean constructor = method.matches("(public )?[A-Z][A-Za-z]*\\(\\) \\{");
                hold(field || constructor, "an object is made in " + method);
            }
            hold(!line.contains("\"") && !line.contains(".clone"), "a text or a clone in " + method);
        }
    }

    /** The body of each method and constructor, by "class.name". */
    private static Map<String, String> bodies(String source) {
        Map<String, String> bodies = new TreeMap<>();
        Pattern type = Pattern.compile(" {4}private static final class ([A-Za-z]+) \\{");
        Pattern head = Pattern.compile("( {4}| {8})(?:[a-z]+ )*(?:[A-Za-z]+ )?([A-Za-z]+)\\(.*\\) \\{");
        String inside = "FourPhases";
        String method = "";
        String end = "";
        for (String line : source.split("\n")) {
            Matcher classStart = type.matcher(line);
            Matcher start = head.matcher(line);
            if (classStart.matches()) {
                inside = classStart.group(1);
            } else if (method.isEmpty() && start.matches()) {
                method = inside + "." + start.group(2);
                end = start.group(1) + "}";
                hold(!bodies.containsKey(method), "two methods " + method);
                bodies.put(method, "");
            } else if (line.equals(end)) {
                method = "";
            } else if (!method.isEmpty()) {
                bodies.put(method, bodies.get(method) + line + "\n");
            }
        }
        return bodies;
    }

    /** A name that several classes have counts for each of them, so the depth is rather told too great than too small. */
    private static void depthOfCalls(String source) {
        Map<String, String> bodies = bodies(source);
        hold(bodies.size() > FACE.length + 40, "only " + bodies.size() + " methods were found");
        hold(depth("Line.offer", bodies, 1) == 3, "offer, makeRequest, insert are three: the calls are not found");
        for (String method : bodies.keySet()) {
            hold(depth(method, bodies, 1) <= DEEPEST_CALLS, method + " goes too deep, or calls itself");
        }
    }

    private static int depth(String method, Map<String, String> bodies, int level) {
        int deepest = level;
        if (level > DEEPEST_CALLS) {
            return level;
        }
        String inside = method.substring(0, method.indexOf('.') + 1);
        Matcher call = Pattern.compile("(\\.|new )?\\b([A-Za-z]+)\\(").matcher(bodies.get(method));
        while (call.find()) {
            for (String other : bodies.keySet()) {
                boolean mayBe = call.group(1) == null ? other.startsWith(inside) : !other.equals(method);
                if (mayBe && other.endsWith("." + call.group(2))) {
                    deepest = Math.max(deepest, depth(other, bodies, level + 1));
                }
            }
        }
        return deepest;
    }

    /** What an object holds is little, and no call adds to it. */
    private static void room() throws IllegalAccessException {
        FourPhases x = new FourPhases();
        int[] before = size(x);
        hold(before[0] <= MOST_OBJECTS && before[1] <= MOST_ELEMENTS, "room " + Arrays.toString(before));
        for (int i = 0; i < 60; i++) {
            x.add(i % 2, i % 16);
            x.type("a1,".charAt(i % 3));
            x.perform();
            x.keep();
            x.run(11);
            x.dearest();
            x.leastLead();
            x.restore();
        }
        int[] after = size(x);
        hold(Arrays.equals(before, after), "room " + Arrays.toString(before) + ", later " + Arrays.toString(after));
    }

    /** How many objects and arrays there are behind an object, and how many fields and elements these have. */
    private static int[] size(Object root) throws IllegalAccessException {
        Map<Object, Boolean> seen = new IdentityHashMap<>();
        ArrayDeque<Object> open = new ArrayDeque<>();
        open.add(root);
        int elements = 0;
        while (!open.isEmpty()) {
            Object next = open.remove();
            if (seen.put(next, true) != null) {
                continue;
            }
            if (next.getClass().isArray()) {
                elements += Array.getLength(next);
                if (next instanceof Object[]) {
                    open.addAll(Arrays.asList((Object[]) next));
                }
                continue;
            }
            for (Field field : next.getClass().getDeclaredFields()) {
                if (!Modifier.isStatic(field.getModifiers())) {
                    elements++;
                    field.setAccessible(true);
                    if (!field.getType().isPrimitive()) {
                        open.add(field.get(next));
                    }
                }
            }
        }
        return new int[] {seen.size(), elements};
    }
}
