import java.io.IOException;
import java.lang.reflect.Method;
import java.lang.reflect.Modifier;
import java.nio.charset.StandardCharsets;
import java.nio.file.Files;
import java.nio.file.Path;
import java.util.List;

/** README.md's example answers what is written beside it, and its table has every call. */
public final class ReadmeTest {
    private ReadmeTest() {
    }

    public static void main(String[] args) {
        CheckHelper.runAll(ReadmeTest.class);
    }

    private static List<String> readme() {
        try {
            return Files.readAllLines(Path.of("README.md"), StandardCharsets.UTF_8);
        } catch (IOException e) {
            throw new IllegalStateException("README.md is not in the folder that the tests run in: " + e);
        }
    }

    private static void dueLine(String start, String told) {
        CheckHelper.countCheck();
        if (readme().stream().noneMatch(line -> line.startsWith(start) && line.contains("// " + told))) {
            CheckHelper.tellWrong("README.md does not say: " + start + " .. // " + told);
        }
    }

    /** The line stands in the example with this answer, and the call answers it. */
    private static void dueInExample(String line, long want, CheckHelper.Call call) {
        dueLine(line, want + ":");
        CheckHelper.due(line, want, call);
    }

    private static void theExampleAnswersWhatItSays() {
        ThimbleSwap museum = new ThimbleSwap();
        dueLine("int anna = museum.join();", "0");
        dueLine("int bert = museum.join();", "1");
        CheckHelper.due("anna", 0, museum::join);
        CheckHelper.due("bert", 1, museum::join);
        dueInExample("int rose = museum.find(anna, 0, 3, 11, 7);", 0, () -> museum.find(0, 0, 3, 11, 7));
        dueInExample("int lily = museum.find(bert, 1, 2, 12, 6);", 1, () -> museum.find(1, 1, 2, 12, 6));
        dueInExample("museum.like(anna, 1, 5);", 1, () -> museum.like(0, 1, 5));
        dueInExample("museum.gains(rose, lily);", 7, () -> museum.gains(0, 1));
        dueInExample("museum.swap(rose, lily);", 0, () -> museum.swap(0, 1));
        dueInExample("museum.lend(rose, 4);", 4, () -> museum.lend(0, 4));
        dueInExample("museum.pass(5);", 1, () -> museum.pass(5));
        dueInExample("museum.thimble(rose, 3);", 6, () -> museum.thimble(0, 3));
        dueInExample("museum.collector(anna, 3);", 19, () -> museum.collector(0, 3));
        dueLine("museum.mean();", "15.0:");
        CheckHelper.dueDouble("museum.mean();", 15.0, museum.mean());
    }

    private static void theTableHasEveryCall() {
        List<String> lines = readme();
        for (Method m : ThimbleSwap.class.getDeclaredMethods()) {
            if (Modifier.isPublic(m.getModifiers())) {
                CheckHelper.countCheck();
                String row = "| `" + m.getName() + "(";
                if (lines.stream().noneMatch(line -> line.startsWith(row))) {
                    CheckHelper.tellWrong("README.md has no row for " + m.getName());
                }
            }
        }
    }

    private static void itTellsHowToRunTheTests() {
        CheckHelper.countCheck();
        if (readme().stream().noneMatch(line -> line.strip().equals(".ci/run"))) {
            CheckHelper.tellWrong("README.md does not tell how to run the tests");
        }
    }
}
