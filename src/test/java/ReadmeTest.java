import java.io.IOException;
import java.lang.reflect.Method;
import java.lang.reflect.Modifier;
import java.nio.file.Files;
import java.nio.file.Path;
import java.util.ArrayList;
import java.util.List;

/** The README's example answers what its comments say, and its table has every call. */
public final class ReadmeTest {
    private static final Path README = Path.of("README.md");
    private static final Path SOURCE = Path.of("src/test/java/ReadmeTest.java");
    private static final String FIRST = "ShardRows rows = new ShardRows(2);";
    private static final String LAST = "int after = rows.verdict();";

    public static void main(String[] args) throws IOException {
        Check.part("example");
        exampleAnswers();
        exampleIsTheReadmes();
        Check.part("table");
        tableHasEveryCall();
        Check.end();
    }

    private static void exampleAnswers() {
        ShardRows rows = new ShardRows(2);
        int a = rows.test(5);
        int b = rows.test(0);
        int c = rows.test(3);
        rows.join(a, c);
        int length = rows.split();
        int n = rows.draw(0, 42L);
        for (int i = 0; i < n; i++) {
            rows.result(rows.drawn(i), 0, 0);
        }
        int strange = rows.result(b, 0, 0);
        int missing = rows.missing(0);
        rows.result(b, rows.shard(b), 7);
        int before = rows.verdict();
        rows.again(b);
        rows.result(b, rows.shard(b), 0);
        int after = rows.verdict();

        Check.due("mean", rows.mean(), 4);
        Check.due("length", length, 8);
        Rows.dueShards(rows, 0, 1, 0);
        Check.due("n", n, 2);
        Check.due("tries of a", rows.tries(a), 1);
        Check.due("tries of b", rows.tries(b), 2);
        Check.due("tries of c", rows.tries(c), 1);
        Check.due("strange", strange, -2);
        Check.due("missing", missing, b);
        Check.due("before", before, 2);
        Check.due("after", after, 1);
    }

    private static void exampleIsTheReadmes() throws IOException {
        List<String> shown = example(README);
        List<String> run = example(SOURCE);
        Check.due("lines of the example are found", !shown.isEmpty(), true);
        if (!shown.equals(run)) {
            Check.tell("README.md shows " + shown + ", run is " + run);
        }
    }

    /** The lines from FIRST to LAST, without their comments. */
    private static List<String> example(Path file) throws IOException {
        List<String> found = new ArrayList<>();
        for (String line : Files.readAllLines(file)) {
            String code = line.replaceAll("//.*", "").trim();
            if (code.equals(FIRST) || !found.isEmpty()) {
                found.add(code);
            }
            if (code.equals(LAST)) {
                return found;
            }
        }
        return List.of();
    }

    private static void tableHasEveryCall() throws IOException {
        String text = Files.readString(README);
        Check.due("the table has the constructor", text.contains("\n| `new ShardRows("), true);
        for (Method m : ShardRows.class.getDeclaredMethods()) {
            if (Modifier.isPublic(m.getModifiers())) {
                Check.due("the table has " + m.getName(), text.contains("\n| `" + m.getName() + "("), true);
            }
        }
    }
}
