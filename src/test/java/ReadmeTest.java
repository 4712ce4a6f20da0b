import java.io.IOException;
import java.nio.file.Files;
import java.nio.file.Path;

// README.md has a row for each call of the document's face, and what its example and its rows of parts tell is so.
public final class ReadmeTest {
    public static void main(String[] args) throws IOException {
        String readme = Files.readString(Path.of("README.md"));
        calls(readme, Files.readString(Path.of("../shared/DOC.md")));
        example();
        parts(readme);
        Due.end();
    }

    private static void calls(String readme, String document) {
        Due.sentence("README.md", "the calls, what they answer");
        int rows = 0;
        for (String line : document.lines().toList()) {
            if (line.startsWith("    public ")) {
                String call = line.strip().replace("public ", "").replace(";", "");
                Due.same("a row for " + call, readme.contains("\n| `" + call + "` | "), true);
                rows++;
            }
        }
        Due.same("the calls of the face", rows, 18);
    }

    private static void example() {
        Due.sentence("README.md", "the example");
        Index index = new Index().typed("Rain, #rain");
        Due.same("post", index.x().post(1, 100), 0);
        Due.same("length", index.x().length(), 0);
        Due.same("write", index.x().write(6), 3);
        index.typed("rain -=2");
        int place = index.x().search();
        Due.same("search", place, 0);
        Due.same("left", index.x().left(place), 1);
        Due.same("next", index.x().next(place), 0);
        Due.same("next", index.x().next(place), -1);
        Due.same("close", index.x().close(place), true);
    }

    /** The parts are those of the page's rows, tried on posts of which each part tells some from others. */
    private static void parts(String readme) {
        Due.sentence("README.md", "a query is made of these parts");
        Index index = new Index();
        index.post(1, 99, "Heavy RAIN");
        index.post(2, 100, "rain heavy");
        index.post(3, 101, "#Rain snow @ann");
        index.writeAll().post(1, 0, "wind, snow");
        index.writeAll();
        String[][] due = {{"rain", "1 0"}, {"#rain", "2"}, {"@ann", "2"}, {"\"heavy rain\"", "0"}, {"=1", "3 0"},
            {"<100", "3 0"}, {">100", "2"}, {"-rain", "3 2"}, {"(rain | snow)", "3 2 1 0"},
            {"rain | snow wind", "3 1 0"}};
        for (String[] row : due) {
            String shown = "`" + row[0].replace("|", "\\|") + "`";
            Due.same("shown: " + row[0], readme.contains(shown), true);
            Due.same("hits of " + row[0], index.hits(row[0]), row[1]);
        }
    }
}
