import java.io.IOException;
import java.nio.file.Files;
import java.nio.file.Path;
import java.util.ArrayList;
import java.util.Arrays;
import java.util.List;
import java.util.TreeMap;
import java.util.regex.Matcher;
import java.util.regex.Pattern;

/**
 * README.md is true: its example answers as told, its tables have each call of DOC.md's face with the findings of its
 * promise, and the findings' numbers are those that are answered and counted. Its argument: the shared folder.
 */
public final class ReadmeTest {
    private static final Check CHECK = new Check("ReadmeTest");
    private static final Pattern EXAMPLE = Pattern.compile("x\\.(\\w+)\\(([^)]*)\\);\\s*// (-?\\d+)");
    private static final Pattern ROW = Pattern.compile("(?m)^\\| `(\\w+)\\(([^)]*)\\)` \\|.*\\|([A-Z, ]*)\\|$");
    private static final Pattern FACE = Pattern.compile("public int (\\w+)\\(([^)]*)\\);");
    /** Each promise is a head with a name, and a line that begins with the call's face. */
    private static final Pattern PROMISE = Pattern.compile("(?m)^## Promise \\d+: \\w+\\n\\n`int (\\w+)\\([^)]*\\)`: (.*)$");
    /** A finding begins a sentence of its promise. */
    private static final Pattern TOLD = Pattern.compile("(?<=\\. )(BEYOND|FULL|KIND|NONE|STATE|MISSING|SIZE)\\b");

    public static void main(String[] args) throws IOException {
        String shared = args.length > 0 ? args[0] : "../shared";
        String doc = Files.readString(Path.of(shared, "DOC.md"));
        String readme = Files.readString(Path.of("README.md"));
        example(readme);
        text(readme);
        tables(readme, doc);
        findings(readme);
        CHECK.end();
    }

    private static void example(String readme) {
        LeakCups x = new LeakCups();
        int lines = 0;
        Matcher line = EXAMPLE.matcher(readme);
        while (line.find()) {
            int[] given = listed(line.group(2)).stream().mapToInt(Integer::decode).toArray();
            int told = Integer.parseInt(line.group(3));
            CHECK.due("the example's " + line.group(), Calls.answer(x, line.group(1), given), told);
            lines++;
        }
        CHECK.holds("the example is seen: " + lines, lines >= 20);
    }

    /** What stands between backticks, with ; and a blank in it, and no bracket, is a TEXT. */
    private static void text(String readme) {
        Matcher text = Pattern.compile("`([a-z0-9 -]+; [a-z0-9; -]+)`").matcher(readme);
        CHECK.holds("a TEXT is seen", text.find());
        CHECK.due("the TEXT " + text.group(1), Make.read(new LeakCups(), text.group(1)), 0);
    }

    private static List<String> listed(String text) {
        return text.isBlank() ? List.of() : Arrays.asList(text.trim().split(", *"));
    }

    private static void tables(String readme, String doc) {
        TreeMap<String, String> due = promised(doc);
        TreeMap<String, String> has = rows(readme);
        CHECK.due("calls of the face", due.size(), 43);
        CHECK.holds("rows of " + has.keySet(), has.keySet().equals(due.keySet()));
        for (String name : due.keySet()) {
            String both = name + ": due is " + due.get(name) + ", told is " + has.get(name);
            CHECK.holds(both, due.get(name).equals(has.get(name)));
        }
    }

    /** By the name of each call: its numbers' names, and its promise's findings. */
    private static TreeMap<String, String> promised(String doc) {
        TreeMap<String, String> calls = new TreeMap<>();
        Matcher face = FACE.matcher(doc);
        while (face.find()) {
            calls.put(face.group(1), face.group(2).replace("int ", ""));
        }
        Matcher promise = PROMISE.matcher(doc);
        while (promise.find()) {
            calls.merge(promise.group(1), " " + findingsOf(promise.group(2)), String::concat);
        }
        return calls;
    }

    private static List<String> findingsOf(String promise) {
        List<String> found = new ArrayList<>();
        Matcher told = TOLD.matcher(promise);
        while (told.find()) {
            found.add(told.group());
        }
        return found;
    }

    private static TreeMap<String, String> rows(String readme) {
        TreeMap<String, String> calls = new TreeMap<>();
        Matcher row = ROW.matcher(readme);
        while (row.find()) {
            String told = row.group(2) + " " + listed(row.group(3));
            CHECK.holds("one row of " + row.group(1), calls.put(row.group(1), told) == null);
        }
        return calls;
    }

    private static void findings(String readme) {
        String[] names = {"BEYOND", "FULL", "KIND", "NONE", "STATE", "MISSING", "SIZE"};
        for (int which = 0; which < names.length; which++) {
            String row = "| " + names[which] + " | " + (-1000001 - which) + " | " + which + " |";
            CHECK.holds("the findings have " + row, readme.contains("\n" + row));
        }
        LeakCups x = new LeakCups();
        int size = x.sheet(0, 8, -1);
        CHECK.due("SIZE", size, -1000007);
        CHECK.due("status() of SIZE", x.status(-1000001 - size), 1);
    }
}
