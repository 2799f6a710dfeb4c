import java.io.IOException;
import java.nio.file.Files;
import java.nio.file.Path;
import java.util.ArrayList;
import java.util.LinkedHashMap;
import java.util.List;
import java.util.Map;
import java.util.regex.Matcher;
import java.util.regex.Pattern;

/** What the document says, read from it, so that a test can tell what it has left out. */
final class Document {
    private static final Path PATH = Path.of("../shared/DOC.md");
    private static final Pattern PROMISE = Pattern.compile("## Promise \\d+: (.*)");
    private static final Pattern ROW = Pattern.compile("Throws `(\\w+)` if .*");

    private Document() {
    }

    /** The exceptions of each call by their names, in the order in which they are documented. */
    static Map<String, List<String>> rows() {
        Map<String, List<String>> rows = new LinkedHashMap<>();
        String call = "";
        for (String line : lines()) {
            Matcher promise = PROMISE.matcher(line);
            Matcher row = ROW.matcher(line);
            if (promise.matches()) {
                call = promise.group(1);
            } else if (row.matches()) {
                rows.computeIfAbsent(call, name -> new ArrayList<>()).add(row.group(1));
            }
        }
        return rows;
    }

    /** The sentences of "Terms", without titles and without what is said of the interface's headings. */
    static List<String> terms() {
        List<String> lines = lines();
        int from = lines.indexOf("## Terms") + 1;
        List<String> paragraphs = List.of(String.join("\n", lines.subList(from, lines.size()))
            .split("\n## ")[0].strip().split("\n\n"));
        List<String> sentences = new ArrayList<>();
        for (String paragraph : paragraphs) {
            for (String sentence : paragraph.replace('\n', ' ').split("(?<=\\.) (?=[A-Z])")) {
                boolean isTitle = sentence.split(" ").length <= 3 && paragraph.startsWith(sentence);
                if (!isTitle && !sentence.startsWith("Ahead of the calls")) {
                    sentences.add(sentence);
                }
            }
        }
        return sentences;
    }

    private static List<String> lines() {
        try {
            return Files.readAllLines(PATH);
        } catch (IOException e) {
            throw new IllegalStateException(e);
        }
    }
}
