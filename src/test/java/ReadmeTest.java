import java.nio.file.Files;
import java.nio.file.Path;

/** The example in README.md: each call stands there with the answer that it has. */
public final class ReadmeTest {
    private static final Due CHECK = new Due();
    private static String example = "";

    public static void main(String[] args) throws Exception {
        String text = Files.readString(Path.of("README.md"));
        int begin = text.indexOf("```java\n") + 8;
        int end = text.indexOf("```\n", begin);
        if (begin < 8 || end < begin) {
            CHECK.fault("README.md has no example");
        } else {
            example = text.substring(begin, end);
            calls();
        }
        if (!example.isEmpty()) {
            CHECK.fault("README.md has more than was looked at: " + example);
        }
        CHECK.end();
    }

    private static void calls() {
        WalkGrounds x = new WalkGrounds();
        if (example.startsWith("WalkGrounds x = new WalkGrounds();\n")) {
            example = example.substring(example.indexOf('\n') + 1);
        }
        int walk = x.walk(0);
        told("int walk = x.walk(0);", walk);
        told("x.step(walk, 0);", x.step(walk, 0));
        told("x.step(walk, 1);", x.step(walk, 1));
        told("x.pivot(walk, 1, 4);", x.pivot(walk, 1, 4));
        told("x.place(walk, 2, 1);", x.place(walk, 2, 1));
        told("x.step(walk, 9);", x.step(walk, 9));
        told("x.back(walk, 1);", x.back(walk, 1));
        told("x.form(walk, 0);", x.form(walk, 0));
        told("x.about(walk, 7);", x.about(walk, 7));
        told("x.walks(0, 4);", x.walks(0, 4));
        told("x.rings(0, 4);", x.rings(0, 4));
        told("x.forms(0, 4);", x.forms(0, 4));
        told("x.board(3, 3);", x.board(3, 3));
        told("x.ways(false);", x.ways(false));
        told("x.hole(1, 1, true);", x.hole(1, 1, true));
        told("x.ways(false);", x.ways(false));
        told("x.shortest();", x.shortest());
    }

    /** The next line of the example is the call, and the number behind its // the answer. */
    private static void told(String call, long answer) {
        int end = example.indexOf('\n');
        String line = end < 0 ? "" : example.substring(0, end);
        example = example.substring(end + 1);
        int number = line.indexOf("// ");
        int colon = line.indexOf(':', number + 1);
        if (!line.startsWith(call) || number < 0 || colon < 0) {
            CHECK.fault("README.md has the line '" + line + "' for " + call);
            return;
        }
        CHECK.due("README.md: " + call, answer, Long.parseLong(line.substring(number + 3, colon)));
    }
}
