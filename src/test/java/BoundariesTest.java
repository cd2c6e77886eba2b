import java.nio.file.Files;
import java.nio.file.Path;
import java.util.ArrayList;
import java.util.LinkedHashMap;
import java.util.List;
import java.util.Map;
import java.util.regex.Pattern;

/** BOUNDARIES.md tells nothing but what the document and the tests hold, and leaves nothing of a promise out. */
public final class BoundariesTest {
    private static final Path DOCUMENT = Path.of("../shared/DOC.md");
    private static final Path TESTS = Path.of("src/test/java");

    public static void main(String[] args) throws Exception {
        if (!Files.exists(DOCUMENT)) {
            System.out.println("nothing is checked without " + DOCUMENT);
            return;
        }
        Map<String, String> document = sections(Files.readString(DOCUMENT));
        Map<String, String> listed = sections(Files.readString(Path.of("BOUNDARIES.md")));
        Map<String, List<String>> quotes = new LinkedHashMap<>();
        for (String heading : listed.keySet()) {
            Check.holds("the document has the heading " + heading, document.containsKey(heading));
            quotes.put(heading, rows(heading, listed.get(heading), oneLine(document.getOrDefault(heading, ""))));
        }
        Check.holds("the terms are listed", quotes.containsKey("Terms"));
        for (String heading : document.keySet()) {
            if (heading.startsWith("Promise ")) {
                nothingLeftOut(heading, document.get(heading), quotes.getOrDefault(heading, List.of()));
            }
        }
        Check.finish();
    }

    /** What stands under each heading of the second level. */
    private static Map<String, String> sections(String text) {
        Map<String, String> all = new LinkedHashMap<>();
        for (String part : text.split("(?m)^## ")) {
            int end = part.indexOf('\n');
            all.put(end < 0 ? part : part.substring(0, end).trim(), end < 0 ? "" : part.substring(end));
        }
        all.keySet().removeIf(heading -> heading.startsWith("#"));
        return all;
    }

    private static String oneLine(String text) {
        return text.replaceAll("\\s+", " ");
    }

    /** Checks the rows of a table and returns what they quote. */
    private static List<String> rows(String heading, String table, String section) throws Exception {
        List<String> quotes = new ArrayList<>();
        for (String line : table.split("\n")) {
            String[] cells = line.split("\\|");
            if (cells.length != 3 || cells[1].contains("---") || cells[1].trim().equals("The document")) {
                continue;
            }
            String quote = cells[1].trim();
            Check.holds(heading + " says: " + quote, section.contains(quote));
            quotes.add(quote);
            for (String test : cells[2].trim().split(", ")) {
                isRun(test);
            }
        }
        Check.holds(heading + " has a row", !quotes.isEmpty());
        return quotes;
    }

    private static void isRun(String test) throws Exception {
        String[] names = test.split("\\.");
        Path file = TESTS.resolve(names[0] + ".java");
        Check.holds(test + " has a file", names.length == 2 && Files.exists(file));
        String code = Files.readString(file);
        Check.holds(test + " is there", Pattern.compile("static \\S+ " + names[1] + "\\(").matcher(code).find());
        Check.holds(test + " is called", Pattern.compile("(?m)^ {8,}" + names[1] + "\\(").matcher(code).find());
    }

    /** Each argument, and each error or NONE of the line of the answers, has to be in a row. */
    private static void nothingLeftOut(String heading, String section, List<String> quotes) {
        for (String line : section.split("\n")) {
            if (line.startsWith("- ")) {
                String argument = line.substring(2, line.indexOf(':') + 1);
                Check.holds(heading + ": a row of " + argument, quotes.stream().anyMatch(q -> q.startsWith(argument)));
            } else if (line.startsWith("Returns ")) {
                for (String answer : line.replaceAll("\\.$", "").split("; ")) {
                    boolean isEdge = Pattern.compile("^(BAD_|NOT_|FULL|NONE)").matcher(answer).find();
                    Check.holds(heading + ": a row of " + answer, !isEdge || quotes.contains(answer));
                }
            }
        }
    }
}
