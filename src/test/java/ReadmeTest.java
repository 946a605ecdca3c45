import java.lang.reflect.Method;
import java.lang.reflect.Modifier;
import java.nio.file.Files;
import java.nio.file.Path;
import java.util.HashMap;
import java.util.HashSet;
import java.util.Map;
import java.util.Set;
import java.util.regex.Matcher;
import java.util.regex.Pattern;

/** Does what the README's example does, line by line, and holds each answer against the one that stands behind it. */
public final class ReadmeTest {
    private static final Pattern TYPED = Pattern.compile("for \\(char b : \"([^\"]*)\"\\.toCharArray\\(\\)\\) x\\.type\\(([01]), b\\);");
    private static final Pattern CALL = Pattern.compile("x\\.(\\w+)\\(([-\\d, ]*)\\);\\s+// (-?\\d+): .*");
    private static final int FEWEST_CALLS = 20;

    private static final Map<String, Method> face = new HashMap<>();
    private static int wrong = 0;
    private static int calls = 0;

    public static void main(String[] args) throws Exception {
        for (Method method : BoatNames.class.getDeclaredMethods()) {
            if (Modifier.isPublic(method.getModifiers())) {
                face.put(method.getName(), method);
            }
        }
        String readme = Files.readString(Path.of("README.md"));
        followExample(readme);
        everyCallIsTold(readme);
        if (calls < FEWEST_CALLS) {
            complain("the example has " + calls + " calls alone");
        }
        System.out.println(calls + " lines of the README were followed, " + wrong + " wrong");
        if (wrong != 0) {
            System.exit(1);
        }
    }

    private static void complain(String what) {
        wrong++;
        System.out.println(what);
    }

    private static void followExample(String readme) throws Exception {
        int from = readme.indexOf("```java\n");
        int to = readme.indexOf("\n```\n", from);
        if (from < 0 || to < 0) {
            complain("there is no example");
            return;
        }
        BoatNames x = new BoatNames();
        for (String line : readme.substring(from + "```java\n".length(), to).split("\n")) {
            follow(x, line.strip());
        }
    }

    private static void follow(BoatNames x, String line) throws Exception {
        Matcher typed = TYPED.matcher(line);
        Matcher call = CALL.matcher(line);
        if (typed.matches()) {
            for (char b : typed.group(1).toCharArray()) {
                x.type(Integer.parseInt(typed.group(2)), b);
            }
        } else if (call.matches() && face.containsKey(call.group(1))) {
            calls++;
            long got = answer(x, face.get(call.group(1)), call.group(2));
            if (got != Long.parseLong(call.group(3))) {
                complain(line + " -- answered " + got);
            }
        } else if (!line.isEmpty() && !line.startsWith("//") && !line.equals("BoatNames x = new BoatNames();")) {
            complain("cannot follow: " + line);
        }
    }

    private static long answer(BoatNames x, Method method, String list) throws Exception {
        String[] parts = list.isBlank() ? new String[0] : list.split(", ");
        Object[] numbers = new Object[parts.length];
        for (int i = 0; i < parts.length; i++) {
            numbers[i] = Integer.valueOf(parts[i]);
        }
        return ((Number) method.invoke(x, numbers)).longValue();
    }

    /** The table of calls names each one, and none that is not there. */
    private static void everyCallIsTold(String readme) {
        Set<String> named = new HashSet<>();
        for (String line : readme.split("\n")) {
            if (line.startsWith("| `") && Character.isLowerCase(line.charAt(3))) {
                Matcher word = Pattern.compile("`(\\w+)`").matcher(line);
                while (word.find()) {
                    named.add(word.group(1));
                }
            }
        }
        if (!named.equals(face.keySet())) {
            complain("the table of calls names " + named);
        }
    }
}
