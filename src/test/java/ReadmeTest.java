import java.io.IOException;
import java.nio.file.Files;
import java.nio.file.Path;
import java.util.List;

/** The example in README.md: its lines stand there as they do here, and answer what their comments say. */
public final class ReadmeTest {
    private final Check check = new Check("ReadmeTest");
    private final List<String> readme;

    private ReadmeTest(List<String> readme) {
        this.readme = readme;
    }

    public static void main(String[] args) throws IOException {
        new ReadmeTest(Files.readAllLines(Path.of("README.md"))).example();
    }

    private void example() {
        CarvedSolids x = new CarvedSolids();
        int right = x.plane(1, 0, 0, 100);
        int left = x.plane(-1, 0, 0, 100);
        line(2, "int right = x.plane(1, 0, 0, 100);", "0", 0, () -> right);
        line(2, "int left = x.plane(-1, 0, 0, 100);", "1", 1, () -> left);
        line(4, "x.convex(0);", "1", 1, () -> x.convex(0));
        line(4, "x.convex(1 << right | 1 << left);", "2", 2, () -> x.convex(1 << right | 1 << left));
        line(5, "x.join(2);", "1", 1, () -> x.join(2));
        line(10, "x.inside(0, 0, 0, 1);", "CarvedSolids.OUTSIDE", CarvedSolids.OUTSIDE, () -> x.inside(0, 0, 0, 1));
        line(10, "x.inside(401, 5, 5, 2);", "CarvedSolids.INSIDE", CarvedSolids.INSIDE,
                () -> x.inside(401, 5, 5, 2));
        line(10, "x.inside(100, 5, 5, 1);", "CarvedSolids.ON", CarvedSolids.ON, () -> x.inside(100, 5, 5, 1));
        line(11, "x.side(100, 5, 5, 1);", "-1", -1, () -> x.side(100, 5, 5, 1));
        line(11, "x.side(-1000, 5, 5, 1);", "1", 1, () -> x.side(-1000, 5, 5, 1));
        line(12, "x.enters(0, 5, 5);", "2", 2, () -> x.enters(0, 5, 5));
        check.end();
    }

    private void line(int promise, String code, String comment, int want, Check.Call call) {
        check.due(promise, code, want, call);
        check.dueText(promise, "README.md's comment on " + code, comment, commentOn(code));
    }

    /** What the comment behind the code says, up to its colon. */
    private String commentOn(String code) {
        for (String line : readme) {
            int slashes = line.indexOf("//");
            if (slashes > 0 && line.substring(0, slashes).trim().equals(code)) {
                return line.substring(slashes + 2).split(":")[0].trim();
            }
        }
        return "no such line";
    }
}
