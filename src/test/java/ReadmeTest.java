import java.io.IOException;
import java.nio.file.Files;
import java.nio.file.Path;
import java.util.List;

/** The example of README.md, line by line: each call answers what its comment tells first. */
public final class ReadmeTest {
    private static final String BEGIN = "```java", END = "```";
    private static final String MADE = "GridEstimator grid = new GridEstimator(3);";
    private static final int FLOW = GridEstimator.FLOW, INJECTION = GridEstimator.INJECTION;

    private static final Due due = new Due();
    private static List<String> example;
    private static int said = 0;

    public static void main(String[] args) throws IOException {
        List<String> readme = Files.readAllLines(Path.of("README.md"));
        List<String> behind = readme.subList(readme.indexOf(BEGIN) + 1, readme.size());
        example = behind.subList(0, Math.max(0, behind.indexOf(END)));
        due.compare("the first line", MADE, next());
        follow(new GridEstimator(3));
        due.answers("lines of the example", said, () -> example.size());
        due.close();
    }

    private static void follow(GridEstimator grid) {
        says("addLine(0, 1, 1)", () -> grid.addLine(0, 1, 1));
        says("addLine(1, 2, 2)", () -> grid.addLine(1, 2, 2));
        says("addMeter(GridEstimator.FLOW, 0, 10, 1)", () -> grid.addMeter(FLOW, 0, 10, 1));
        says("isObservable(0)", () -> grid.isObservable(0));
        says("addMeter(GridEstimator.INJECTION, 2, -5, 2)", () -> grid.addMeter(INJECTION, 2, -5, 2));
        says("isObservable(0)", () -> grid.isObservable(0));
        says("isCritical(1)", () -> grid.isCritical(1));
        says("angleNumerator(2)", () -> grid.angleNumerator(2));
        says("angleDenominator(2)", () -> grid.angleDenominator(2));
        says("worst(0)", () -> grid.worst(0));
        says("addMeter(GridEstimator.FLOW, 0, 12, 1)", () -> grid.addMeter(FLOW, 0, 12, 1));
        says("addMeter(GridEstimator.FLOW, 0, 38, 1)", () -> grid.addMeter(FLOW, 0, 38, 1));
        says("angleNumerator(1)", () -> grid.angleNumerator(1));
        says("worst(0)", () -> grid.worst(0));
        says("clean(0, 5)", () -> grid.clean(0, 5));
        says("angleNumerator(1)", () -> grid.angleNumerator(1));
        says("residualNumerator(3)", () -> grid.residualNumerator(3));
        says("setBreaker(1, false)", () -> grid.setBreaker(1, false));
        says("islands()", grid::islands);
        says("addLine(2, 1, 1)", () -> grid.addLine(2, 1, 1));
    }

    /** The comment tells the answer up to a colon, if it goes on. */
    private static void says(String call, Due.Call made) {
        String line = next();
        String[] parts = line.split(" +// ");
        due.compare("line " + said, "grid." + call + ";", parts[0]);
        due.compare(call, parts.length < 2 ? "an answer" : parts[1].split(":")[0], Due.outcome(made));
    }

    private static String next() {
        String line = said < example.size() ? example.get(said) : "";
        said++;
        return line;
    }
}
