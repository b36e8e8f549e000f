import java.io.IOException;
import java.nio.file.Files;
import java.nio.file.Path;
import java.util.List;

/** README.md's example: its lines are those below, and its answers are the ones it writes. */
public final class ReadmeTest {
    private static List<String> lines;
    private static int at;

    public static void main(String[] args) throws IOException {
        lines = Files.readAllLines(Path.of("README.md"));
        at = lines.indexOf("KeySums x = new KeySums();");
        Check.due("README.md has the example", at >= 0, true);
        if (at >= 0) {
            example();
        }
        Check.finish();
    }

    private static void example() {
        KeySums x = new KeySums();
        line("x.feed(0x73656372, 0x65740000, 0, 0, 0);", x.feed(0x73656372, 0x65740000, 0, 0, 0));
        line("x.end(6);", x.end(6));
        line("x.key();", x.key());
        line("x.feed(0x61626300, 0, 0, 0, 0);", x.feed(0x61626300, 0, 0, 0, 0));
        line("x.end(3);", x.end(3));
        line("x.add();", x.add());
        line("x.fill(100, 7);", x.fill(100, 7));
        line("x.sum(true);", x.sum(true));
        line("x.sumAt(0);", x.sumAt(0));
        line("x.sumAt(15);", x.sumAt(15));
        line("x.fill(4001, 7);", x.fill(4001, 7));
        Check.due("the example's end", next(), "```");
    }

    /** The next line is the call, then // and the answer, up to a colon if words follow. */
    private static void line(String call, Object answer) {
        String[] parts = next().split("//", 2);
        Check.due("README.md's call", parts[0].trim(), call);
        String told = parts.length < 2 ? "" : parts[1].split(":", 2)[0].trim();
        Check.due(call, String.valueOf(answer), told);
    }

    private static String next() {
        at++;
        return at < lines.size() ? lines.get(at) : "";
    }
}
