import java.io.IOException;
import java.lang.reflect.Method;
import java.nio.file.Files;
import java.nio.file.Path;
import java.util.ArrayList;
import java.util.List;
import java.util.Map;
import java.util.TreeMap;
import java.util.regex.Matcher;
import java.util.regex.Pattern;
import java.util.stream.Stream;

/** README.md: its calls answer as it tells, and its lists are those of the class and of the document. */
public final class ReadmeTest {
    private static final Map<String, Integer> NAMES = Map.of("NONE", RingArm.NONE, "UNKNOWN", RingArm.UNKNOWN,
        "OUTSIDE", RingArm.OUTSIDE, "STATE", RingArm.STATE, "FULL", RingArm.FULL);
    private static final int LEAST_EXAMPLES = 30;

    private static final Check check = new Check();

    public static void main(String[] args) throws Exception {
        String document = Files.readString(Path.of(args[1]));
        String readme = Files.readString(Path.of(args[2]));
        examples(readme);
        answers(readme);
        calls(readme, document);
        testsAreNamed(readme);
        check.end("ReadmeTest");
    }

    private static void examples(String readme) throws Exception {
        Matcher plate = Pattern.compile("String plate = \"([^\"]*)\"").matcher(readme);
        check.isTrue("the examples have a plate", plate.find());
        RingArm arm = new RingArm();
        Check.write(arm, plate.group(1));
        Matcher example = Pattern.compile("(?m)^arm\\.(\\w+)\\(([-\\d, ]*)\\);\\s*// (-?\\d+|[A-Z]+)").matcher(readme);
        int made = 0;
        while (example.find()) {
            made++;
            String told = example.group(3);
            long want = NAMES.containsKey(told) ? NAMES.get(told) : Long.parseLong(told);
            check.due("README: " + example.group(), made(arm, example.group(1), example.group(2)), want);
        }
        check.isTrue("the examples are found: " + made, made >= LEAST_EXAMPLES);
    }

    private static long made(RingArm arm, String name, String arguments) throws Exception {
        String[] texts = arguments.isBlank() ? new String[0] : arguments.split(",");
        Class<?>[] types = new Class<?>[texts.length];
        Object[] numbers = new Object[texts.length];
        for (int i = 0; i < texts.length; i++) {
            types[i] = int.class;
            numbers[i] = Integer.parseInt(texts[i].trim());
        }
        return ((Number) RingArm.class.getMethod(name, types).invoke(arm, numbers)).longValue();
    }

    private static void answers(String readme) {
        for (Map.Entry<String, Integer> name : NAMES.entrySet()) {
            check.isTrue("README tells " + name, readme.contains("\n| `" + name.getKey() + "` | " + name.getValue() + " |"));
        }
    }

    private static void calls(String readme, String document) {
        Map<String, String> listed = new TreeMap<>();
        Matcher row = Pattern.compile("(?m)^\\| `(\\w+\\([^`]*\\))` \\|.*\\|([^|]*)\\|$").matcher(readme);
        while (row.find()) {
            listed.put(row.group(1), refusalsIn(row.group(2)));
        }
        Map<String, String> promised = new TreeMap<>();
        Matcher promise = Pattern.compile("(?m)^`(?:int|long) (\\w+)\\(([^`]*)\\)`: (.*)$").matcher(document);
        while (promise.find()) {
            String names = promise.group(2).replaceAll("\\bint ", "");
            promised.put(promise.group(1) + "(" + names + ")", refusalsIn(promise.group(3)));
        }
        check.due("promised calls", promised.size(), publicMethods());
        for (String call : promised.keySet()) {
            check.isTrue("README lists " + call + " with " + promised.get(call) + ": " + listed.get(call),
                promised.get(call).equals(listed.get(call)));
        }
        check.due("calls that README lists", listed.size(), promised.size());
    }

    private static String refusalsIn(String text) {
        List<String> found = new ArrayList<>();
        Matcher word = Pattern.compile("\\b(UNKNOWN|OUTSIDE|STATE|FULL)\\b").matcher(text);
        while (word.find()) {
            found.add(word.group());
        }
        return found.toString();
    }

    private static int publicMethods() {
        int many = 0;
        for (Method m : RingArm.class.getDeclaredMethods()) {
            many += java.lang.reflect.Modifier.isPublic(m.getModifiers()) ? 1 : 0;
        }
        return many;
    }

    private static void testsAreNamed(String readme) throws IOException {
        try (Stream<Path> files = Files.list(Path.of("src/test/java"))) {
            files.map(file -> file.getFileName().toString()).filter(file -> file.endsWith("Test.java"))
                .forEach(file -> check.isTrue("README names " + file,
                    readme.contains("\n- `" + file.replace(".java", "") + "`: ")));
        }
    }
}
