import java.io.IOException;
import java.nio.file.Files;
import java.nio.file.Path;

/** The example of README.md, line by line: each call answers what README.md says behind it. */
public final class ReadmeTest {
    private static final Checks c = new Checks();

    private static String example = "";
    private static int lines = 0;

    public static void main(String[] args) throws IOException {
        String readme = Files.readString(Path.of("README.md"));
        String[] parts = readme.split("```");
        c.due("parts of README.md around one example", parts.length, 3);
        example = parts.length == 3 ? parts[1].replaceAll(" +", " ") : "";
        HarbourlightMonitor x = new HarbourlightMonitor();
        stands("HarbourlightMonitor x = new HarbourlightMonitor();");
        int load = x.series(1, 0, 2);
        says("int load = x.series(1, 0, 2);", load);
        int high = x.rule(0, 0, 1, 0, 80, true);
        says("int high = x.rule(0, 0, 1, 0, 80, true);", high);
        says("x.setRule(high, 80, 1, 3);", x.setRule(high, 80, 1, 3));
        says("x.tell(load, 95);", x.tell(load, 95));
        says("x.tick(1);", x.tick(1));
        says("x.burningIn(1);", x.burningIn(1));
        says("x.tick(2);", x.tick(2));
        says("x.alert(high, load, 0);", x.alert(high, load, 0));
        says("x.alert(high, load, 1);", x.alert(high, load, 1));
        says("x.notice(0, 3);", x.notice(0, 3));
        says("x.hush(high, -1, 10);", x.hush(high, -1, 10));
        says("x.many(5);", x.many(5));
        says("x.loudWithout(0);", x.loudWithout(0));
        says("x.calm(high);", x.calm(high));
        stands("x.tell(1, 5); // throws IndexOutOfBoundsException: ");
        c.badIndex("x.tell(1, 5)", x, () -> x.tell(1, 5));
        c.due("lines of the example", example.strip().split("\n").length - 1, lines);
        c.end();
    }

    private static void says(String call, int answer) {
        stands(call + " // " + answer + ": ");
    }

    private static void stands(String words) {
        lines++;
        c.due("README.md says: " + words, example.contains("\n" + words) ? 1 : 0, 1);
    }
}
