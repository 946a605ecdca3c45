import java.lang.reflect.Constructor;
import java.lang.reflect.Field;
import java.lang.reflect.Method;
import java.lang.reflect.Modifier;
import java.nio.file.Files;
import java.nio.file.Path;
import java.util.Arrays;
import java.util.HashMap;
import java.util.HashSet;
import java.util.Map;
import java.util.Set;
import java.util.TreeSet;
import java.util.regex.Matcher;
import java.util.regex.Pattern;

/** The document's face, and those rules of LANGUAGE.md that a look at the class or its text can tell. */
public final class FaceTest {
    private static final String INT = "int", LONG = "long";
    private static final String[] FACE = {
        "type 2", "wipe 1", "undo 1", "fault 1", "told 2", "boat 2", "event 3", "back 0", "read 1", "hates 3", "at 3",
        "afloat 1", "named 2", "first 1", "loved 0", "bitter 0", "longs 1", "wrong 2", "pay 2", "waits 2", "spare 1",
        "seen 3", "forget 0", "never 0", "sort 1", "hated 2", "ask 2", "chance 3", "decades 3", "sheet 3", "lose 1",
        "put 4", "get 3", "copy 5", "write 2", "count 1", "digest 0",
    };
    private static final String[] FORBIDDEN = {
        "throw", "try", "catch", "synchronized", "assert", "package", "Object", "hashCode", "toString", "Random",
        "Thread", "currentTimeMillis", "nanoTime", "protected", "volatile", "transient", "native",
    };

    private static final Set<String> LIBRARY = Set.of("max", "min", "bitCount", "arraycopy", "fill");
    private static final Pattern METHOD_HEAD = Pattern.compile("^(?: {4}| {8})(?:[\\w\\[\\]]+ )+(\\w+)\\([^()]*\\) \\{$");
    private static final int DEEPEST = 8;

    private static int wrong = 0;

    public static void main(String[] args) throws Exception {
        publicFace();
        nestedClasses();
        noOtherStaticState();
        String source = Files.readString(Path.of("src/main/java/BoatNames.java"));
        words(source);
        methodLengths(source);
        callDepth(source);
        System.out.println(wrong == 0 ? "the face and the text are as asked" : wrong + " things are not as asked");
        if (wrong != 0) {
            System.exit(1);
        }
    }

    private static void due(boolean holds, String what) {
        if (!holds) {
            wrong++;
            System.out.println("not as asked: " + what);
        }
    }

    private static void publicFace() {
        Class<?> c = BoatNames.class;
        due(Modifier.isPublic(c.getModifiers()) && Modifier.isFinal(c.getModifiers()), "public final class");
        Set<String> got = new TreeSet<>();
        Set<String> hidden = new HashSet<>();
        for (Method m : c.getDeclaredMethods()) {
            if (Modifier.isPublic(m.getModifiers())) {
                got.add(m.getName() + " " + m.getParameterCount());
                boolean isLong = m.getName().equals("chance") || m.getName().equals("digest");
                due(m.getReturnType().getName().equals(isLong ? LONG : INT), "type of " + m.getName());
                due(Arrays.stream(m.getParameterTypes()).allMatch(t -> t == int.class), "numbers of " + m.getName());
                due(!Modifier.isStatic(m.getModifiers()), "no static " + m.getName());
            } else {
                due(Modifier.isPrivate(m.getModifiers()), "private " + m.getName());
                hidden.add(m.getName());
            }
        }
        due(got.equals(new TreeSet<>(Arrays.asList(FACE))), "public methods " + got);
        for (String each : FACE) {
            due(!hidden.contains(each.substring(0, each.indexOf(' '))), "no private method named " + each);
        }
        Set<String> constants = new TreeSet<>();
        for (Field f : c.getDeclaredFields()) {
            if (Modifier.isPublic(f.getModifiers())) {
                constants.add(f.getName());
            } else {
                due(Modifier.isPrivate(f.getModifiers()), "private field " + f.getName());
            }
        }
        due(constants.equals(new TreeSet<>(Arrays.asList("NONE", "BAD", "NOT", "FULL"))), "constants " + constants);
        Constructor<?>[] made = c.getDeclaredConstructors();
        due(made.length == 1 && Modifier.isPublic(made[0].getModifiers()) && made[0].getParameterCount() == 0, "constructor");
    }

    private static void nestedClasses() {
        Class<?>[] nested = BoatNames.class.getDeclaredClasses();
        due(nested.length <= 11, "at most some twelve classes");
        for (Class<?> each : nested) {
            due(Modifier.isStatic(each.getModifiers()) && !Modifier.isPublic(each.getModifiers()), "nested " + each);
            due(each.getDeclaredFields().length <= 20, "fields of " + each);
            for (Method m : each.getDeclaredMethods()) {
                due(m.getParameterCount() <= 7, "numbers of " + m);
                due(Arrays.stream(FACE).noneMatch(f -> f.startsWith(m.getName() + " ")), "name of " + m);
            }
        }
    }

    private static void noOtherStaticState() {
        int own = 0;
        for (Field f : BoatNames.class.getDeclaredFields()) {
            if (Modifier.isStatic(f.getModifiers())) {
                due(Modifier.isFinal(f.getModifiers()) && f.getType() == int.class, "static " + f.getName());
            } else {
                own++;
            }
        }
        due(own <= 20, "fields of the class");
    }

    private static void words(String source) {
        String code = source.replaceAll("(?s)/\\*.*?\\*/", " ").replaceAll("//[^\n]*", " ");
        for (String word : FORBIDDEN) {
            due(!Pattern.compile("\\b" + word + "\\b").matcher(code).find(), "no " + word);
        }
        due(!code.contains("->") && !code.contains("::"), "no lambda, no method reference");
        Matcher imports = Pattern.compile("import ([\\w.]+);").matcher(code);
        while (imports.find()) {
            due(imports.group(1).equals("java.util.Arrays"), "import " + imports.group(1));
        }
        Matcher used = Pattern.compile("\\b(?:Math|Arrays|System|Integer|Long|String)\\.([a-z]\\w*)").matcher(code);
        while (used.find()) {
            due(LIBRARY.contains(used.group(1)), "library: " + used.group());
        }
        due(source.chars().allMatch(b -> b == '\n' || b >= 32 && b < 127), "plain signs alone");
    }

    /** A method stands at four or eight blanks, and so does the brace that ends it. */
    private static void methodLengths(String source) {
        String[] lines = source.split("\n");
        int from = -1;
        String indent = "";
        for (int i = 0; i < lines.length; i++) {
            Matcher head = Pattern.compile("^( {4}| {8})(?!private static final class)[^ /*}].*\\) \\{$").matcher(lines[i]);
            if (from < 0 && head.matches()) {
                from = i;
                indent = head.group(1);
            } else if (from >= 0 && lines[i].equals(indent + "}")) {
                due(i - from < 60, "length of the method at line " + (from + 1));
                from = -1;
            }
        }
    }

    /** Rule 11: calls go eight deep at most, the library's among them; rule 8 is not needed, as nothing calls itself. */
    private static void callDepth(String source) {
        String code = source.replaceAll("(?s)/\\*.*?\\*/", " ").replaceAll("//[^\n]*", " ");
        Map<String, Set<String>> callees = new HashMap<>();
        String current = null;
        for (String line : code.split("\n")) {
            Matcher head = METHOD_HEAD.matcher(line);
            if (head.matches()) {
                current = head.group(1);
                callees.computeIfAbsent(current, name -> new TreeSet<>());
            } else if (current != null) {
                Matcher call = Pattern.compile("(?<!new )\\b(\\w+)\\(").matcher(line);
                while (call.find()) {
                    callees.get(current).add(call.group(1));
                }
            }
        }
        due(callees.size() > FACE.length, "methods are found");
        for (String name : callees.keySet()) {
            int depth = depth(name, callees, new HashSet<>());
            due(depth <= DEEPEST, "calls from " + name + " go " + depth + " deep");
        }
    }

    private static int depth(String name, Map<String, Set<String>> callees, Set<String> open) {
        if (!open.add(name)) {
            due(false, name + " calls itself");
            return DEEPEST + 1;
        }
        int deepest = 0;
        for (String callee : callees.getOrDefault(name, Set.of())) {
            boolean isCall = callees.containsKey(callee) || LIBRARY.contains(callee);
            if (isCall) {
                deepest = Math.max(deepest, depth(callee, callees, open));
            }
        }
        open.remove(name);
        return deepest + 1;
    }
}
