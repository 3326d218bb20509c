import java.io.IOException;
import java.lang.reflect.Method;
import java.nio.charset.StandardCharsets;
import java.nio.file.Files;
import java.nio.file.Path;
import java.util.Map;
import java.util.Set;
import java.util.TreeMap;
import java.util.TreeSet;
import java.util.regex.Matcher;
import java.util.regex.Pattern;
import java.util.stream.Stream;

/**
 * What README.md says is so: each call that it shows is made, in its order, on one object, and answers what stands
 * behind it; each call of the face is shown; the tests that it names are those there are, and .ci/run is how they run.
 */
public final class ReadmeTest {
    private static final String MADE = "DunesWalked parish = new DunesWalked();";
    private static final Pattern CALL = Pattern.compile(
        "(?:(int|long) (\\w+) = )?parish\\.(\\w+)\\((.*)\\); +// (-?\\d+|[A-Z]+)(?:[ :,].*)?");
    private static final Pattern TABLED = Pattern.compile("(?m)^\\| (`\\w+`(?:, `\\w+`)*) \\|");

    private final Map<String, Method> face = new TreeMap<>();
    private final Map<String, Integer> named = new TreeMap<>();
    private final Set<String> shown = new TreeSet<>();
    private DunesWalked parish;

    private ReadmeTest() {
        for (Method m : DunesWalked.class.getMethods()) {
            if (m.getDeclaringClass() == DunesWalked.class) {
                face.put(m.getName(), m);
            }
        }
    }

    public static void main(String[] args) throws IOException, ReflectiveOperationException {
        String text = Files.readString(Path.of("README.md"), StandardCharsets.UTF_8);
        ReadmeTest test = new ReadmeTest();
        test.calls(text);
        Due.is("calls that README.md shows", test.shown.toString(), test.face.keySet().toString());
        tests(text);
        Due.end();
    }

    /** Every line of every block of Java is the object made, or a call with its answer. */
    private void calls(String text) throws ReflectiveOperationException {
        Matcher block = Pattern.compile("(?s)```java\n(.*?)```").matcher(text);
        int made = 0;
        while (block.find()) {
            for (String line : block.group(1).split("\n")) {
                if (line.equals(MADE)) {
                    parish = new DunesWalked();
                    made++;
                } else {
                    call(line);
                }
            }
        }
        Due.is("objects that README.md makes", made, 1);
    }

    private void call(String line) throws ReflectiveOperationException {
        Matcher call = CALL.matcher(line);
        Method method = call.matches() ? face.get(call.group(3)) : null;
        if (method == null || parish == null) {
            Due.is("a call of the face with its answer is README.md's line " + line, 0, 1);
            return;
        }
        Object[] args = numbers(call.group(4));
        if (args.length != method.getParameterCount()) {
            Due.is("numbers told by " + line, args.length, method.getParameterCount());
            return;
        }
        long got = ((Number) method.invoke(parish, args)).longValue();
        Due.is(line, got, answer(call.group(5)));
        shown.add(method.getName());
        if (call.group(1) != null) {
            Due.is("the type of " + line, call.group(1), method.getReturnType().getName());
            named.put(call.group(2), (int) got);
        }
    }

    private Object[] numbers(String words) {
        if (words.isEmpty()) {
            return new Object[0];
        }
        return Stream.of(words.split(", ")).map(this::number).toArray();
    }

    /** A number, a letter in quotes, a name that a line gave an answer, or two of them with a + between. */
    private Integer number(String words) {
        int sum = 0;
        for (String word : words.split(" \\+ ")) {
            sum += word.matches("'.'") ? word.charAt(1)
                : named.containsKey(word) ? named.get(word) : Integer.parseInt(word);
        }
        return sum;
    }

    private static long answer(String word) throws ReflectiveOperationException {
        return Character.isUpperCase(word.charAt(0))
            ? ((Number) DunesWalked.class.getField(word).get(null)).longValue() : Long.parseLong(word);
    }

    private static void tests(String text) throws IOException {
        Set<String> tabled = new TreeSet<>();
        Matcher row = TABLED.matcher(text);
        while (row.find()) {
            for (String name : row.group(1).replace("`", "").split(", ")) {
                tabled.add(name);
            }
        }
        Set<String> there = new TreeSet<>();
        try (Stream<Path> files = Files.list(Path.of("tests"))) {
            files.map(f -> f.getFileName().toString()).filter(f -> f.endsWith("Test.java"))
                .forEach(f -> there.add(f.replace(".java", "")));
        }
        Due.is("tests that README.md names", tabled.toString(), there.toString());
        Due.is("README.md runs the tests by .ci/run", text.contains("\n    .ci/run\n") ? 1 : 0, 1);
        Due.is(".ci/run can be run", Files.isExecutable(Path.of(".ci/run")) ? 1 : 0, 1);
    }
}
