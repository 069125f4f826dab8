import java.io.IOException;
import java.nio.file.Files;
import java.nio.file.Path;
import java.util.Arrays;
import java.util.List;
import java.util.regex.Matcher;
import java.util.regex.Pattern;
import java.util.stream.Collectors;
import java.util.stream.Stream;

/** What README.md says is so: its example answers as it tells, and its tables name every call and every test. */
public final class ReadmeTest {
    private static final Due DUE = new Due("ReadmeTest");
    private static final Pattern TYPED = Pattern.compile("for \\(char b : \"(.*)\"\\.toCharArray\\(\\)\\) map\\.type\\((\\d), b\\);");
    private static final Pattern CALL = Pattern.compile("map\\.(\\w+)\\(([^)]*)\\); +// (-?\\d+):.*");
    private static final int NO_PROMISE = 0;
    private static final int FIRST_PROMISE = 2;

    public static void main(String[] args) throws IOException {
        String readme = Files.readString(Path.of("README.md"));
        example(readme.substring(readme.indexOf("MarriedMap map ="), readme.indexOf("```\n", readme.indexOf("MarriedMap map ="))));
        for (String call : Calls.NAMES) {
            DUE.is(NO_PROMISE, "the readme names " + call, readme.contains("`" + call + "`") ? 1 : 0, 1);
        }
        for (String test : tests()) {
            DUE.is(NO_PROMISE, "the readme names " + test, readme.contains("`" + test + "`") ? 1 : 0, 1);
        }
        DUE.end();
    }

    private static void example(String lines) {
        MarriedMap map = new MarriedMap();
        Calls calls = new Calls(map);
        int called = 0;
        for (String line : lines.split("\n")) {
            Matcher typed = TYPED.matcher(line);
            Matcher call = CALL.matcher(line);
            if (typed.lookingAt()) {
                Due.type(map, Integer.parseInt(typed.group(2)), typed.group(1));
            } else if (call.matches()) {
                called++;
                int number = Calls.NAMES.indexOf(call.group(1));
                DUE.is(number + FIRST_PROMISE, line, calls.answer(number, numbers(call.group(2))), Integer.parseInt(call.group(3)));
            }
        }
        DUE.is(NO_PROMISE, "the example has calls", called > 10 ? 1 : 0, 1);
    }

    private static int[] numbers(String told) {
        return told.isEmpty() ? new int[0] : Arrays.stream(told.split(", ")).mapToInt(Integer::parseInt).toArray();
    }

    private static List<String> tests() throws IOException {
        try (Stream<Path> files = Files.list(Path.of("src/test/java"))) {
            return files.map(f -> f.getFileName().toString()).filter(f -> f.endsWith("Test.java"))
                    .map(f -> f.replace(".java", "")).collect(Collectors.toList());
        }
    }
}
