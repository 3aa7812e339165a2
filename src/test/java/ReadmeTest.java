import java.io.IOException;
import java.nio.file.Files;
import java.nio.file.Path;
import java.util.ArrayList;
import java.util.List;

/** Runs the lines of README.md, in their order, and compares what stands behind each with its answer. */
public final class ReadmeTest {
    private static final List<String> LINES = new ArrayList<>();
    private static int next = 0;

    public static void main(String[] args) throws IOException {
        readLines();
        GemPits pits = new GemPits();
        line("GemPits pits = new GemPits();");
        ground(pits);
        market(pits);
        rough(pits);
        line("pits.count(1);", pits.count(1));
        line("pits.count(9);", pits.count(9));
        Check.same("README: lines that are not run", LINES.size() - next, 0);
        tests();
        Check.close();
    }

    private static void ground(GemPits pits) {
        line("pits.feed(0x61706172, 0x7420323b, 0x2066696c, 0x6c203330, 0x20202020);",
                pits.feed(0x61706172, 0x7420323b, 0x2066696c, 0x6c203330, 0x20202020));
        line("pits.law();", pits.law());
        line("pits.sink(13);", pits.sink(13));
        line("pits.sink(14);", pits.sink(14));
        line("pits.wash(0, 50);", pits.wash(0, 50));
        line("pits.span(0, false);", pits.span(0, false));
        line("pits.span(0, true);", pits.span(0, true));
        line("pits.best();", pits.best());
        line("pits.days(31);", pits.days(31));
        line("pits.fill(0);", pits.fill(0));
        line("pits.look(0, 3);", pits.look(0, 3));
    }

    private static void market(GemPits pits) {
        line("pits.feed(0x636f7374, 0x73206669, 0x7273743b, 0x206c616e, 0x64203130);",
                pits.feed(0x636f7374, 0x73206669, 0x7273743b, 0x206c616e, 0x64203130));
        line("pits.agreement();", pits.agreement());
        line("pits.lay(60);", pits.lay(60));
        line("pits.stone(0, 7);", pits.stone(0, 7));
        line("pits.hand(0, 2, 300);", pits.hand(0, 2, 300));
        line("pits.hand(0, 4, 240);", pits.hand(0, 4, 240));
        line("pits.sell(0, 250);", pits.sell(0, 250));
        line("pits.part(0, 4);", pits.part(0, 4));
        line("pits.part(0, 5);", pits.part(0, 5));
        line("pits.part(0, 8);", pits.part(0, 8));
    }

    private static void rough(GemPits pits) {
        pits.rough(3, 2);
        line("pits.rough(3, 2);");
        line("pits.flaw(1, 0, true);", pits.flaw(1, 0, true));
        line("pits.most();", pits.most());
        line("pits.cuts();", pits.cuts());
    }

    /** The lines of code in README.md that are more than a comment. */
    private static void readLines() throws IOException {
        boolean code = false;
        for (String line : Files.readAllLines(Path.of("README.md"))) {
            if (line.startsWith("```")) {
                code = line.equals("```java");
            } else if (code && !line.isEmpty() && !line.startsWith("//")) {
                LINES.add(line);
            }
        }
    }

    private static String nextLine() {
        next++;
        return next <= LINES.size() ? LINES.get(next - 1) : "";
    }

    private static void line(String call) {
        Check.same("README: " + call, nextLine().equals(call), true);
    }

    private static void line(String call, long answer) {
        told(call, String.valueOf(answer));
    }

    private static void line(String call, boolean answer) {
        told(call, String.valueOf(answer));
    }

    /** The line is the call and, behind it, a comment that begins with its answer. */
    private static void told(String call, String answer) {
        String line = nextLine();
        Check.same("README: " + call + " in " + line, line.startsWith(call), true);
        String comment = line.substring(Math.min(call.length(), line.length())).trim();
        Check.same("README: " + call + " answered " + answer + ", told " + comment,
                comment.matches("// " + answer + "\\b.*"), true);
    }

    /** Each test of the project has its row. */
    private static void tests() throws IOException {
        String page = Files.readString(Path.of("README.md"));
        try (var files = Files.list(Path.of("src/test/java"))) {
            files.map(file -> file.getFileName().toString()).filter(name -> name.endsWith("Test.java"))
                    .forEach(name -> Check.same("README: a row for " + name,
                            page.contains("| `" + name.substring(0, name.length() - 5) + "` |"), true));
        }
    }
}
