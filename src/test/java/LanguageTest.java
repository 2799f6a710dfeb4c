import java.io.IOException;
import java.nio.file.Files;
import java.nio.file.Path;
import java.util.List;

/** The class keeps to LANGUAGE.md, as far as Rules can see; and Rules sees what breaks one. */
public final class LanguageTest {
    public static void main(String[] args) throws IOException {
        String source = Files.readString(Path.of("src/main/java/Equaltexts.java"));
        Check.due("the class", List.of(), Rules.brokenBy(source));
        Check.due("a class that breaks none", List.of(), Rules.brokenBy(with("private int own;")));
        broken();
        brokenInMethods();
        Check.end("LanguageTest");
    }

    private static String with(String members) {
        return "import java.util.ArrayList;\npublic final class Equaltexts {\n" + members + "\n}\n";
    }

    private static void breaks(int rule, String source) {
        List<String> findings = Rules.brokenBy(source);
        Check.due("seen as breaking rule " + rule + ", not " + findings + ": " + source, true,
            findings.stream().anyMatch(finding -> finding.startsWith(rule + ":")));
    }

    private static void member(int rule, String members) {
        breaks(rule, with(members));
    }

    private static void statement(int rule, String statements) {
        member(rule, "private static int call(int n, int[] row, ArrayList<Integer> list) { " + statements + " }");
    }

    private static void broken() {
        breaks(1, "public class Equaltexts {}");
        breaks(1, "package p; public final class Equaltexts {}");
        breaks(1, "public final class Equaltexts {} class Other {}");
        breaks(4, "import java.util.HashMap; public final class Equaltexts {}");
        member(1, "int open;");
        member(1, "int open() { return 0; }");
        member(1, "public static class Inside {}");
        member(2, "private final class Inside {}");
        member(3, "private String[] texts;");
        member(3, "private Object thing;");
        member(3, "private int[][][] rows;");
        member(3, "private ArrayList<String> texts;");
        member(5, "private static int kept;");
        member(5, "private static final int[][] ROWS = {{1}};");
        member(5, "private static final int ONE; static { ONE = 1; }");
        member(5, "private static final int[] ROW = {1}; private static void change() { ROW[0] = 2; }");
        member(6, "public Equaltexts() { throw new IllegalStateException(); }");
        member(8, "private static int one(int n) { return n > 0 ? two(n - 1) : 0; }"
            + "private static int two(int n) { return one(n); }");
        member(11, "private static int many(int a, int b, int c, int d, int e, int f, int g, int h) { return 0; }");
        member(11, "private static int tall() {" + "\n".repeat(61) + " return 0; }");
        member(11, classes(12));
        member(11, fields(21));
        member(11, chain(9));
    }

    private static void brokenInMethods() {
        statement(2, "Runnable run = () -> { }; return 0;");
        statement(2, "Runnable run = Equaltexts::new; return 0;");
        statement(4, "return Math.addExact(n, 1);");
        statement(4, "return Integer.MAX_VALUE;");
        statement(4, "return new java.util.Random().nextInt();");
        statement(4, "return (int) System.nanoTime();");
        statement(4, "boolean[] set = new boolean[3]; java.util.Arrays.fill(set, true); return 0;");
        statement(6, "throw new IllegalStateException(\"n\" + n);");
        statement(6, "throw new NullPointerException();");
        statement(6, "try { return row[n]; } catch (ArrayIndexOutOfBoundsException e) { return 0; }");
        statement(6, "try { return n; } finally { n = 0; }");
        statement(6, "try { throw new IllegalStateException(); } catch (IllegalStateException e) { return 0; }");
        statement(6, "assert n > 0; return 0;");
        statement(6, "synchronized (row) { return 0; }");
        statement(6, "String one = \"\"; return one == \"\" ? 0 : 1;");
        statement(7, "return 1 / n;");
        statement(7, "n %= row.length; return n;");
        statement(9, "for (;;) { n++; }");
        statement(9, "while (true) { n++; }");
        statement(10, "String text = \"n\" + n; return text.length();");
    }

    private static String classes(int often) {
        StringBuilder out = new StringBuilder();
        for (int i = 0; i < often; i++) {
            out.append("private static class C").append(i).append(" {}");
        }
        return out.toString();
    }

    private static String fields(int often) {
        StringBuilder out = new StringBuilder();
        for (int i = 0; i < often; i++) {
            out.append("private int f").append(i).append(";");
        }
        return out.toString();
    }

    /** Methods of which each calls the next one. */
    private static String chain(int deep) {
        StringBuilder out = new StringBuilder();
        for (int i = 1; i <= deep; i++) {
            out.append("private static int c").append(i).append("() { return ")
                .append(i == deep ? "0" : "c" + (i + 1) + "()").append("; }");
        }
        return out.toString();
    }
}
