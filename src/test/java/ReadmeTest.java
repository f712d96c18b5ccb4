import java.io.IOException;
import java.nio.file.Files;
import java.nio.file.Path;
import java.util.ArrayList;
import java.util.List;

/** README.md's example stands here word for word, and answers what README.md says. */
public final class ReadmeTest {
    private static final String HERE = "src/test/java/ReadmeTest.java";

    public static void main(String[] args) throws IOException {
        Due due = new Due("ReadmeTest");
        // The example begins.
        FileBuilder x = new FileBuilder();
        int first = x.edge(7, 0, 0);            // an edge with command 7, no flags, no pool
        x.link(first, 1, 0);                    // file 0 is its input
        x.link(first, 0, 1);                    // file 1 is its output
        int second = x.edge(9, 0, 0);
        x.link(second, 1, 1);
        x.link(second, 0, 2);
        x.write(0, 100);                        // file 0 gets the content 100

        int toRun = x.begin(1 << 2, 2, 1);      // 2: file 2 with two jobs, no more after one failure
        for (int e = x.start(); e != FileBuilder.NONE; e = x.start()) {
            x.finish(e, true);                  // the edge ends well: its outputs and the log are written
        }
        int over = x.state();                   // 2: all that was to run ended well

        int again = x.begin(1 << 2, 2, 1);      // 0: nothing is out of date
        int kept = x.cut(12);                   // 8: the second record lost its end, the first is whole
        int afterCut = x.begin(1 << 2, 2, 1);   // 1: the log does not know file 2 any more
        // The example ends.
        due.answers("toRun", toRun, 2);
        due.answers("over", over, 2);
        due.answers("again", again, 0);
        due.answers("kept", kept, 8);
        due.answers("afterCut", afterCut, 1);
        due.answers("the example in README.md", between("README.md", "```java", "```"),
                between(HERE, "        // The example begins.", "        // The example ends."));
        due.end();
    }

    private static String between(String path, String first, String last) throws IOException {
        List<String> lines = new ArrayList<>();
        boolean inside = false;
        for (String line : Files.readAllLines(Path.of(path))) {
            if (line.equals(last)) {
                inside = false;
            }
            if (inside) {
                lines.add(line);
            }
            if (line.equals(first)) {
                inside = true;
            }
        }
        return String.join("\n", lines).stripIndent();
    }
}
