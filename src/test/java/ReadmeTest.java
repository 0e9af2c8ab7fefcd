import java.io.IOException;
import java.nio.file.Files;
import java.nio.file.Path;
import java.util.ArrayList;
import java.util.List;
import java.util.regex.Matcher;
import java.util.regex.Pattern;

/** README.md's example: each of its calls answers the number that is written behind it. */
public final class ReadmeTest {
    private static final Pattern LINE = Pattern.compile("row\\.(\\w+)\\(([-\\d, ]*)\\); *// (-?\\d+).*");
    private static final int CALLS = 8;

    private final Check check = new Check();
    private final LineChunks row = new LineChunks();

    public static void main(String[] args) throws IOException {
        ReadmeTest test = new ReadmeTest();
        int calls = 0;
        for (String line : Files.readAllLines(Path.of("README.md"))) {
            Matcher m = LINE.matcher(line);
            if (m.matches()) {
                test.check.same(line, Integer.parseInt(m.group(3)), test.answer(m.group(1), numbers(m.group(2))));
                calls++;
            }
        }
        // Else an example that is written otherwise would pass untested.
        test.check.same("calls in README.md's example", CALLS, calls);
        test.check.end();
    }

    private static List<Integer> numbers(String written) {
        List<Integer> all = new ArrayList<>();
        for (String number : written.split(", *")) {
            if (!number.isEmpty()) {
                all.add(Integer.parseInt(number));
            }
        }
        return all;
    }

    private int answer(String name, List<Integer> a) {
        return switch (name) {
            case "insert" -> row.insert(a.get(0), a.get(1), a.get(2), a.get(3));
            case "delete" -> row.delete(a.get(0), a.get(1));
            case "get" -> row.get(a.get(0));
            case "length" -> row.length();
            case "lines" -> row.lines();
            case "line" -> row.line(a.get(0));
            case "lineOf" -> row.lineOf(a.get(0));
            case "digest" -> row.digest();
            default -> throw new IllegalArgumentException(name);
        };
    }
}
