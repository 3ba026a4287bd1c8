import java.io.IOException;
import java.lang.reflect.Method;
import java.lang.reflect.Modifier;
import java.nio.file.Files;
import java.nio.file.Path;
import java.util.ArrayList;
import java.util.Collections;
import java.util.List;
import java.util.regex.Matcher;
import java.util.regex.Pattern;
import java.util.stream.Stream;

/** README.md holds: its example answers so, it has each call of the face, each promise and each test. */
public final class ReadmeTest {
    private static final Path TESTS = Path.of("src/test/java");
    private static final String[] PROMISES = {"a new object", "`feed`", "`rules`", "`alp`", "`height`", "`sheep`", "`move`",
        "`day`", "`act`", "`milking`", "`milk`", "`close`", "`work`", "`look`", "`credit`", "`part`", "`way`", "`step`",
        "`grass`", "`told`", "`entry`", "`rule`", "`count`"};

    public static void main(String[] args) throws IOException {
        String page = Files.readString(Path.of("README.md"));
        exampleAnswersSo(page);
        eachCallStandsThere(page);
        eachPromiseHasTests(page);
        eachTestStandsThere(page);
        Due.end();
    }

    private static void exampleAnswersSo(String page) {
        FlockPass x = new FlockPass();
        Matcher line = Pattern.compile("(?m)^pass\\.(\\w+)\\((.*)\\); +// (\\w+): .+$").matcher(page);
        int calls = 0;
        while (line.find()) {
            Call call = Call.of(line.group(1), numbers(line.group(2)));
            Due.is("the example's " + call, call.on(x), number(line.group(3)));
            calls++;
        }
        long told = page.lines().filter(l -> l.startsWith("pass.")).count();
        Due.is("each call of the example has its answer", calls, told);
        Due.is("the example has calls", calls > 0, true);
    }

    private static int[] numbers(String row) {
        return Stream.of(row.split(", ")).mapToInt(word -> (int) number(word)).toArray();
    }

    private static long number(String word) {
        return switch (word) {
            case "NONE", "FlockPass.NONE" -> FlockPass.NONE;
            case "true" -> 1;
            case "false" -> 0;
            default -> Long.decode(word);
        };
    }

    private static void eachCallStandsThere(String page) {
        for (Method m : FlockPass.class.getDeclaredMethods()) {
            if (!Modifier.isPublic(m.getModifiers())) {
                continue;
            }
            String names = String.join(", ", Collections.nCopies(m.getParameterCount(), "\\w+"));
            String refusal = m.getReturnType() == boolean.class ? "false" : "NONE";
            String head = "(?m)^\\| `" + m.getName() + "\\(" + names + "\\)` ";
            String cells = "\\| [^|]+ \\| [^|]+ \\| " + refusal + ": [^|]+ \\|$";
            Due.is("a row of " + m.getName(), Pattern.compile(head + cells).matcher(page).find(), true);
        }
    }

    /** The tests that stand beside a promise are there, and call what it is of. */
    private static void eachPromiseHasTests(String page) throws IOException {
        for (int i = 0; i < PROMISES.length; i++) {
            String head = (i + 1) + " " + PROMISES[i];
            Matcher row = Pattern.compile("(?m)^\\| " + head + " \\| (.+) \\|$").matcher(page);
            List<String> tests = row.find() ? namesIn(row.group(1)) : List.of();
            Due.is("promise " + head + " has tests", tests.isEmpty(), false);
            String call = i == 0 ? "count(2)" : PROMISES[i].replace("`", "") + "(";
            for (String test : tests) {
                Path file = TESTS.resolve(test + ".java");
                boolean calls = Files.exists(file) && Files.readString(file).contains(call);
                Due.is(test + " is of promise " + head, calls, true);
            }
        }
    }

    private static List<String> namesIn(String cell) {
        List<String> names = new ArrayList<>();
        Matcher name = Pattern.compile("`(\\w+Test)`").matcher(cell);
        while (name.find()) {
            names.add(name.group(1));
        }
        return names;
    }

    private static void eachTestStandsThere(String page) throws IOException {
        List<String> named = namesIn(page);
        try (Stream<Path> files = Files.list(TESTS)) {
            List<String> tests = files.map(f -> f.getFileName().toString().replace(".java", ""))
                    .filter(name -> name.endsWith("Test")).toList();
            tests.forEach(test -> Due.is(test + " stands on the page", named.contains(test), true));
            named.forEach(name -> Due.is(name + " is a test", tests.contains(name), true));
        }
    }
}
