import java.io.File;
import java.io.IOException;
import java.nio.file.Files;
import java.nio.file.Path;
import java.util.List;

/** README.md's example, line by line, with the answers that it names; and that it names every test. */
public final class ReadmeTest {
    private final List<String> lines;
    private int at;

    private ReadmeTest(List<String> lines) {
        this.lines = lines;
        this.at = lines.indexOf("```java") + 1;
    }

    public static void main(String[] args) throws IOException {
        List<String> readme = Files.readAllLines(Path.of("README.md"));
        Check.begin("example");
        new ReadmeTest(readme).example();
        Check.begin("tests");
        testsAreNamed(String.join("\n", readme));
        Check.finish();
    }

    private void example() {
        dueLine("PoolsHall hall = new PoolsHall();");
        PoolsHall hall = new PoolsHall();
        dueAnswer("hall.feed(0x323A302E, 0x312E3200, 0, 0, 0);", hall.feed(0x323A302E, 0x312E3200, 0, 0, 0));
        dueAnswer("hall.end(7);", hall.end(7));
        int coupon = hall.coupon(10, 2);
        dueAnswer("int coupon = hall.coupon(10, 2);", coupon);
        dueAnswer("hall.told(coupon, 0);", hall.told(coupon, 0));
        dueAnswer("hall.dividend(12, 50, 1000);", hall.dividend(12, 50, 1000));
        dueLine("for (int match = 0; match < 14; match++) {");
        boolean taken = true;
        for (int match = 0; match < 14; match++) {
            taken &= hall.score(match, match < 2 ? 1 : 0, 1);
        }
        dueAnswer("    hall.score(match, match < 2 ? 1 : 0, 1);", taken);
        dueLine("}");
        dueAnswer("hall.settle();", hall.settle());
        dueAnswer("hall.prize(coupon, PoolsHall.NONE);", hall.prize(coupon, PoolsHall.NONE));
        dueAnswer("hall.prize(coupon, 0);", hall.prize(coupon, 0));
        dueAnswer("hall.undo();", hall.undo());
        dueLine("```");
    }

    /** The example's next line is these words. */
    private void dueLine(String words) {
        Check.due("'" + words + "' stands in README.md", nextLine().equals(words), true);
    }

    /** The example's next line is a call and a comment that begins with the answer and a colon. */
    private void dueAnswer(String call, Object answer) {
        String line = nextLine();
        int comment = line.indexOf(" // ");
        String code = comment < 0 ? line : line.substring(0, comment).stripTrailing();
        Check.due("'" + call + "' stands in README.md", code.equals(call), true);
        Check.due(call + " answers " + answer + ", as in: " + line, line.contains(" // " + answer + ": "), true);
    }

    private String nextLine() {
        at++;
        return at > 1 && at <= lines.size() ? lines.get(at - 1) : "";
    }

    private static void testsAreNamed(String readme) {
        File[] files = new File("src/test/java").listFiles();
        Check.due("src/test/java is there", files != null, true);
        for (File file : files == null ? new File[0] : files) {
            String name = file.getName().replace(".java", "");
            if (name.endsWith("Test")) {
                Check.due(name + " is named", readme.contains("`" + name + "`"), true);
            }
        }
    }
}
