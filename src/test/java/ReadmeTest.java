import java.io.IOException;
import java.nio.file.Files;
import java.nio.file.Path;
import java.util.List;

/** The example of README.md answers what its comments say; run where README.md is. */
public final class ReadmeTest {
    private static final Checks checks = new Checks();

    public static void main(String[] args) throws IOException {
        Example example = new Example(Files.readAllLines(Path.of("README.md")));
        PointedWords x = new PointedWords();
        example.next("PointedWords x = new PointedWords();");
        example.says("x.add(0, 1L << 32 | 1L << 48);", "" + x.add(0, 1L << 32 | 1L << 48));
        example.says("x.add(0, 77);", "" + x.add(0, 77));
        example.says("x.add(0, 1L | 2L << 32 | 3L << 35);",
                "" + x.add(0, 1L | 2L << 32 | 3L << 35));
        example.says("x.add(0, 0x030201);", "" + x.add(0, 0x030201));
        example.says("x.open();", "" + x.open());
        example.says("x.data(0, 0);", "" + x.data(0, 0));
        int list = x.go(0, 0);
        example.says("int list = x.go(0, 0);", "" + list);
        example.says("x.about(list, 1);", "" + x.about(list, 1));
        example.says("x.data(list, 2);", "" + x.data(list, 2));
        example.says("x.left();", "" + x.left());
        example.says("x.form();", "" + x.form());
        example.says("x.formed(1);", "" + x.formed(1));
        example.says("x.keep();", "" + x.keep());
        example.says("x.change(0, 3, 0x7F030201);", "" + x.change(0, 3, 0x7F030201));
        example.says("x.form();", "" + x.form());
        example.says("x.same();", "" + x.same());
        example.says("x.adopt();", "" + x.adopt());
        example.says("x.word(0, 3);", String.format("0x%06x", x.word(0, 3)));
        example.next("```");
        checks.end();
    }

    /** The lines of the example, gone through one by one. */
    private static final class Example {
        private final List<String> lines;
        private int at;

        Example(List<String> lines) {
            this.lines = lines;
            this.at = lines.indexOf("```java") + 1;
        }

        String next(String call) {
            while (at < lines.size() && lines.get(at).isEmpty()) {
                at++;
            }
            String line = at < lines.size() ? lines.get(at) : "";
            at++;
            checks.due("a line of the example", line.split(" *//")[0], call);
            return line;
        }

        /** The comment begins with what the call answered. */
        void says(String call, String answer) {
            String comment = next(call).replaceFirst(".*// *", "");
            checks.due(call, answer, comment.split("[,:;]")[0]);
        }
    }
}
