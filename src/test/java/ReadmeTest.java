import java.io.IOException;
import java.lang.reflect.InvocationTargetException;
import java.lang.reflect.Method;
import java.nio.file.Files;
import java.nio.file.Path;
import java.util.ArrayList;
import java.util.HashMap;
import java.util.List;
import java.util.Map;
import java.util.regex.Matcher;
import java.util.regex.Pattern;
import java.util.stream.Stream;

/** The example of README.md: each of its calls answers what stands at its line. It also names every test. */
public final class ReadmeTest {
    private static final Path README = Path.of("README.md");
    private static final Path TESTS = Path.of("src/test/java");
    private static final String BEGIN = "NearPlans x = new NearPlans();";
    private static final Pattern CALL = Pattern.compile("(?:int (\\w+) = )?x\\.(\\w+)\\(([^()]*)\\); +// ([-\\w]+)(?:: .+)?");
    private static final Map<String, Integer> NAMES = Map.of("UNKNOWN", -1, "OUTSIDE", -2, "STATE", -3, "ROOM", -4, "NONE", -5);
    private static int wrong = 0;

    private static void fault(String what) {
        wrong++;
        System.out.println("README.md: " + what);
    }

    public static void main(String[] args) throws IOException {
        String text = Files.readString(README);
        List<String> example = exampleOf(text);
        if (example.isEmpty() || !example.get(0).equals(BEGIN)) fault("it has no example that begins with " + BEGIN);
        else makeCalls(example.subList(1, example.size()));
        try (Stream<Path> tests = Files.list(TESTS)) {
            for (Path test : tests.toList()) {
                String name = "`" + test.getFileName().toString().replace(".java", "") + "`";
                if (!text.contains("- " + name)) fault("it does not tell of " + name);
            }
        }
        if (!text.contains("```sh\n.ci/run\n```")) fault("it does not tell how the tests are run");
        System.out.println(wrong == 0 ? "README.md tells what the class does" : wrong + " faults");
        if (wrong != 0) System.exit(1);
    }

    private static List<String> exampleOf(String text) {
        List<String> lines = new ArrayList<>();
        Matcher block = Pattern.compile("(?s)```java\n(.*?)```").matcher(text);
        if (block.find()) for (String line : block.group(1).split("\n")) if (!line.isBlank()) lines.add(line);
        return lines;
    }

    private static void makeCalls(List<String> lines) {
        NearPlans x = new NearPlans();
        Map<String, Integer> known = new HashMap<>(NAMES);
        for (String line : lines) {
            Matcher call = CALL.matcher(line);
            if (!call.matches()) {
                fault("no call with its answer: " + line);
                continue;
            }
            int answer = answerOf(x, call.group(2), numbersOf(call.group(3), known), line);
            if (answer != numberOf(call.group(4), known)) fault("answered " + answer + ": " + line);
            if (call.group(1) != null) known.put(call.group(1), answer);
        }
    }

    private static Object[] numbersOf(String list, Map<String, Integer> known) {
        if (list.isEmpty()) return new Object[0];
        String[] words = list.split(", ");
        Object[] numbers = new Object[words.length];
        for (int i = 0; i < words.length; i++) numbers[i] = numberOf(words[i], known);
        return numbers;
    }

    private static int numberOf(String word, Map<String, Integer> known) {
        return known.containsKey(word) ? known.get(word) : Integer.parseInt(word);
    }

    private static int answerOf(NearPlans x, String name, Object[] numbers, String line) {
        for (Method m : NearPlans.class.getMethods()) {
            if (!m.getName().equals(name) || m.getParameterCount() != numbers.length) continue;
            try {
                return (int) m.invoke(x, numbers);
            } catch (IllegalAccessException | InvocationTargetException e) {
                throw new IllegalStateException(line, e);
            }
        }
        throw new IllegalStateException("there is no such call: " + line);
    }
}
