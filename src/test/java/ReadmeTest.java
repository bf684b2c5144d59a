import java.io.IOException;
import java.lang.reflect.Method;
import java.lang.reflect.Modifier;
import java.nio.file.Files;
import java.nio.file.Path;
import java.util.HashMap;
import java.util.Map;
import java.util.Set;
import java.util.TreeSet;
import java.util.regex.Matcher;
import java.util.regex.Pattern;

/** The examples of README.md answer as it says, and its tables have every call, refusal and constant. */
public final class ReadmeTest {
    private static final Path README = Path.of("README.md");
    private static final Path DOCUMENT = Path.of("../shared/DOC.md");

    private static final Pattern EXAMPLES = Pattern.compile("(?ms)^```java\n(.*?)^```$");
    private static final String NEW_OBJECT = "WordTrees trees = new WordTrees();";
    private static final Pattern CALL = Pattern.compile(
            "(?:int (\\w+) = )?trees\\.(\\w+)\\(([^)]*)\\); *// (-?\\d+|UNKNOWN|OUTSIDE|STATE|ROOM)(?:[:,;].*)?");
    private static final Pattern PROMISED = Pattern.compile("(?m)^`((?:int|long) [^`]+)`: (.*)$");
    private static final Pattern REFUSAL = Pattern.compile("\\b(?:UNKNOWN|OUTSIDE|STATE|ROOM)\\b");
    private static final Map<String, Integer> CONSTANTS = Map.of(
            "UNKNOWN", WordTrees.UNKNOWN, "OUTSIDE", WordTrees.OUTSIDE,
            "STATE", WordTrees.STATE, "ROOM", WordTrees.ROOM);

    private static int asked = 0;
    private static int wrong = 0;

    private static void complain(String what) {
        wrong++;
        System.out.println("README.md: " + what);
    }

    private static void examples(String readme) throws ReflectiveOperationException {
        Set<String> called = new TreeSet<>();
        Matcher blocks = EXAMPLES.matcher(readme);
        while (blocks.find()) {
            block(blocks.group(1), called);
        }
        if (!called.equals(publicMethods())) {
            complain("the examples call " + called + ", due is " + publicMethods());
        }
    }

    private static Set<String> publicMethods() {
        Set<String> names = new TreeSet<>();
        for (Method method : WordTrees.class.getDeclaredMethods()) {
            if (Modifier.isPublic(method.getModifiers())) {
                names.add(method.getName());
            }
        }
        return names;
    }

    /** Each line must be one that is understood, so that no example goes unasked. */
    private static void block(String lines, Set<String> called) throws ReflectiveOperationException {
        WordTrees trees = new WordTrees();
        Map<String, Integer> variables = new HashMap<>();
        for (String line : lines.split("\n")) {
            Matcher call = CALL.matcher(line);
            if (call.matches()) {
                called.add(call.group(2));
                ask(trees, variables, call);
            } else if (!line.isBlank() && !line.equals(NEW_OBJECT)) {
                complain("not a call with its answer: " + line);
            }
        }
        if (!lines.startsWith(NEW_OBJECT + "\n") || lines.indexOf(NEW_OBJECT, 1) >= 0) {
            complain("an example makes its one object in its first line, unlike this: " + lines);
        }
    }

    private static void ask(WordTrees trees, Map<String, Integer> variables, Matcher call)
            throws ReflectiveOperationException {
        String[] arguments = call.group(3).isEmpty() ? new String[0] : call.group(3).split(", ");
        Object[] values = new Object[arguments.length];
        Class<?>[] types = new Class<?>[arguments.length];
        for (int i = 0; i < arguments.length; i++) {
            values[i] = value(arguments[i], variables);
            types[i] = int.class;
        }
        Object answer = WordTrees.class.getMethod(call.group(2), types).invoke(trees, values);
        long got = ((Number) answer).longValue();
        asked++;
        if (got != value(call.group(4), CONSTANTS)) {
            complain(call.group() + " answered " + got);
        }
        if (call.group(1) != null) {
            variables.put(call.group(1), (int) got);
        }
    }

    private static int value(String text, Map<String, Integer> names) {
        if (text.matches("'.'")) {
            return text.charAt(1);
        }
        return names.containsKey(text) ? names.get(text) : Integer.parseInt(text);
    }

    private static void calls(String readme, String document) {
        Matcher promised = PROMISED.matcher(document);
        int promises = 0;
        while (promised.find()) {
            promises++;
            Matcher row = Pattern.compile(
                    "(?m)^\\| " + Pattern.quote("`" + promised.group(1) + "`") + " \\|.*\\| ([^|]+) \\|$").matcher(readme);
            if (!row.find()) {
                complain("no row for " + promised.group(1));
            } else if (!refusals(row.group(1)).equals(refusals(promised.group(2)))) {
                complain(promised.group(1) + " has the refusals " + refusals(row.group(1))
                        + ", due is " + refusals(promised.group(2)));
            }
        }
        if (promises != publicMethods().size()) {
            complain(promises + " calls were looked for, due is " + publicMethods().size());
        }
    }

    private static Set<String> refusals(String text) {
        Set<String> names = new TreeSet<>();
        Matcher name = REFUSAL.matcher(text);
        while (name.find()) {
            names.add(name.group());
        }
        return names;
    }

    private static void constants(String readme) {
        for (Map.Entry<String, Integer> constant : CONSTANTS.entrySet()) {
            if (!readme.contains("\n| `" + constant.getKey() + "` | " + constant.getValue() + " |")) {
                complain("no row for " + constant);
            }
        }
    }

    public static void main(String[] args) throws IOException, ReflectiveOperationException {
        String readme = Files.readString(README);
        examples(readme);
        calls(readme, Files.readString(DOCUMENT));
        constants(readme);
        System.out.println(asked + " answers of README.md asked for, " + wrong + " faults");
        if (wrong != 0) {
            System.exit(1);
        }
    }
}
