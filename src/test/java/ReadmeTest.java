import java.lang.reflect.Field;
import java.lang.reflect.Method;
import java.lang.reflect.Modifier;
import java.nio.file.DirectoryStream;
import java.nio.file.Files;
import java.nio.file.Path;

/** README.md tells the truth: its example, its constants, and that no call and no test is left out. */
public final class ReadmeTest {
    private static String readme;

    public static void main(String[] args) throws Exception {
        readme = Files.readString(Path.of("README.md"));
        example();
        face();
        text();
        tests();
        Check.finish();
    }

    /** A line of the example, with the answer that stands beside it there. */
    private static void line(String call, long got, long want) {
        Check.due("README: " + call, got, want);
        Check.holds("README tells the answer of " + call,
                readme.lines().anyMatch(each -> each.matches(".* = meter\\." + java.util.regex.Pattern.quote(call)
                        + "; +// " + want)));
    }

    private static void example() {
        TransitMeter meter = new TransitMeter();
        int path = meter.addPath(200, 100, 3, 1000, 50);
        line("addPath(200, 100, 3, 1000, 50)", path, 0);
        line("shot(path, 133294, 133472, 90)", meter.shot(path, 133294, 133472, 90), 1);
        line("wouldBe()", meter.wouldBe(), 2002);
        line("close()", meter.close(), 2002);
        line("volume(0)", meter.volume(0), 2002000);
        line("close()", meter.close(), Check.NONE);
        line("undo()", meter.undo(), 3);
        line("addPath(200, 201, 3, 1000, 50)", meter.addPath(200, 201, 3, 1000, 50), Check.BAD_VALUE);
        long lines = readme.lines().filter(each -> each.contains(" = meter.")).count();
        Check.due("lines of the example", lines, 8);
    }

    private static void face() throws Exception {
        for (Method method : TransitMeter.class.getDeclaredMethods()) {
            Check.holds("README names " + method.getName(),
                    !Modifier.isPublic(method.getModifiers()) || readme.contains("`" + method.getName() + "`"));
        }
        for (Field field : TransitMeter.class.getDeclaredFields()) {
            if (Modifier.isPublic(field.getModifiers())) {
                int number = field.getInt(null);
                String name = "`" + field.getName() + "` ";
                Check.holds("README tells " + field.getName(),
                        readme.contains(name + "| " + number + " |") || readme.contains(name + number + " ("));
            }
        }
    }

    private static void text() {
        Check.holds("README shows a text", readme.contains("`s0f133294b133472q90;c;w;`"));
        TransitMeter meter = new TransitMeter();
        meter.addPath(200, 100, 3, 1000, 50);
        Check.type(meter, "s0f133294b133472q90;c;w;");
        Check.due("README: its text has no fault", meter.faultPosition(), Check.NONE);
        Check.due("README: its text run", meter.run(), 3);
        Check.due("README: its text measured", meter.round(0, 0), 2002);
        Check.due("README: its text swapped", meter.total(6), 1);
    }

    private static void tests() throws Exception {
        try (DirectoryStream<Path> all = Files.newDirectoryStream(Path.of("src/test/java"), "*Test.java")) {
            for (Path each : all) {
                String name = each.getFileName().toString().replace(".java", "");
                Check.holds("README names " + name, readme.contains("| `" + name + "` |"));
            }
        }
    }
}
