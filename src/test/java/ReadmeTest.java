import java.io.IOException;
import java.nio.file.Files;
import java.nio.file.Path;
import java.util.ArrayList;
import java.util.Arrays;
import java.util.LinkedHashMap;
import java.util.List;
import java.util.Map;
import java.util.regex.Matcher;
import java.util.regex.Pattern;
import java.util.stream.Collectors;

/** The rows of calls in README.md are those of the document, in its order, and its example runs as it says. */
public final class ReadmeTest {
    private static final Pattern PROMISED = Pattern.compile("`\\S+ (\\w+)\\((.*?)\\).*`: .*");
    private static final Pattern ROW = Pattern.compile("\\| `(\\w+\\(.*?\\))` \\| [^|]+ \\| ?(.*?) ?\\|");
    private static final Map<String, String> SHORT = Map.of(
        "IndexOutOfBoundsException", "Index", "IllegalArgumentException", "Argument",
        "UnsupportedOperationException", "Operation", "NoSuchElementException", "Element",
        "IllegalStateException", "State", "ArithmeticException", "Arithmetic");

    public static void main(String[] args) throws IOException {
        List<String> promised = new ArrayList<>(promised().entrySet().stream()
            .map(call -> call.getKey() + " throws " + call.getValue()).toList());
        List<String> told = new ArrayList<>();
        for (String line : Files.readAllLines(Path.of("README.md"))) {
            Matcher row = ROW.matcher(line);
            if (row.matches()) {
                told.add(row.group(1) + " throws " + row.group(2));
            }
        }
        Check.due("calls", 59, promised.size());
        Check.due("the rows of README.md", promised, told);
        example();
        Check.end("ReadmeTest");
    }

    /** Each call with the names of its parameters, and the short names of what it throws. */
    private static Map<String, String> promised() throws IOException {
        Map<String, String> calls = new LinkedHashMap<>();
        for (String line : Files.readAllLines(Path.of("../shared/DOC.md"))) {
            Matcher call = PROMISED.matcher(line);
            if (call.matches()) {
                String names = Arrays.stream(call.group(2).split(", ")).map(one -> one.replaceAll(".* ", ""))
                    .collect(Collectors.joining(", "));
                calls.put(call.group(1) + "(" + names + ")", Document.rows().getOrDefault(call.group(1), List.of())
                    .stream().map(SHORT::get).collect(Collectors.joining(", ")));
            }
        }
        return calls;
    }

    private static void example() {
        Equaltexts office = new Equaltexts();
        int one = office.tongue();
        int other = office.tongue();
        int act = office.act(0, 5);
        int unit = office.unit(act, -1, -1);
        office.type('n', 30);
        office.write(act, unit, one);
        office.type('n', 31);
        office.write(act, unit, other);
        office.freeze(act);
        Check.due("the example", 's', office.divergence(act, unit, other));
    }
}
