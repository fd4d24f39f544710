import java.io.IOException;
import java.nio.charset.StandardCharsets;
import java.nio.file.Files;
import java.nio.file.Path;

/** README.md names the file, how to use it and how to test it; its example answers as it says there. */
public final class ReadmeTest {
    public static void main(String[] args) throws IOException {
        String readme = Files.readString(Path.of("README.md"), StandardCharsets.UTF_8);
        Check.holds("the file is named", readme.contains("src/main/java/LockStaircase.java"));
        Check.holds("the way to run the tests is named", readme.contains(".ci/run"));
        example(readme);
        Check.end("ReadmeTest");
    }

    /** The calls of the example, one by one; each with its answer must be a line of it. */
    private static void example(String readme) {
        LockStaircase keeper = new LockStaircase();
        answers(readme, "keeper.lock(0, 1, 2);", keeper.lock(0, 1, 2), 0);
        Check.type(keeper, "ann+500,bob-211");
        answers(readme, "keeper.boats();", keeper.boats(), 2);
        answers(readme, "keeper.orders(0);", keeper.orders(0), 2);
        answers(readme, "keeper.best(0, -1);", keeper.best(0, -1), 23);
        answers(readme, "keeper.pass(0);", keeper.pass(0), 25);
        answers(readme, "keeper.ofReach(1, 0);", keeper.ofReach(1, 0), 475);
        answers(readme, "keeper.why(0);", keeper.why(0), -2);
        answers(readme, "keeper.day(1, 1);", keeper.day(1, 1), 4);
        answers(readme, "keeper.locks(7);", keeper.locks(7), -1);
    }

    private static void answers(String readme, String call, int got, int want) {
        Check.due(call, got, want);
        boolean told = readme.lines().anyMatch(line -> line.startsWith(call) && line.contains("// " + want + ": "));
        Check.holds(call + " // " + want + " is a line of README.md", told);
    }
}
