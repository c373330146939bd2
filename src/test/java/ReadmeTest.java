import java.lang.reflect.Method;
import java.lang.reflect.Modifier;
import java.nio.file.Files;
import java.nio.file.Path;
import java.util.List;
import java.util.Map;

/** README.md tells every call with as many numbers as it takes, and its example answers as the comments there say. */
public final class ReadmeTest {
    private static final Check check = new Check("ReadmeTest");
    private static final Map<String, Integer> TOLD = Map.of("NONE", DrumSlits.NONE, "BAD", DrumSlits.BAD,
        "NOT", DrumSlits.NOT, "FULL", DrumSlits.FULL, "NULL", Check.NULL, "INDEX", Check.INDEX, "CAST", Check.CAST,
        "STORE", Check.STORE, "SIZE", Check.SIZE);
    private static final int NOT_FOUND = -1;

    public static void main(String[] args) throws Exception {
        List<String> page = Files.readAllLines(Path.of("README.md"));
        everyCallHasARow(page);
        everyRefusalHasARow(page);
        theExample(page);
        check.end();
    }

    private static void everyCallHasARow(List<String> page) {
        int rows = 0;
        for (Method m : DrumSlits.class.getDeclaredMethods()) {
            if (Modifier.isPublic(m.getModifiers())) {
                int numbers = NOT_FOUND;
                for (String line : page) {
                    if (line.startsWith("| `" + m.getName() + "(")) {
                        rows++;
                        numbers = numbersOf(line.substring(line.indexOf('(') + 1, line.indexOf(')')));
                    }
                }
                check.same("numbers of " + m.getName() + "() on the page", numbers, m.getParameterCount());
            }
        }
        // Of the 41 promises the first is the constructor.
        check.same("rows of calls", rows, 40);
    }

    private static int numbersOf(String named) {
        return named.isEmpty() ? 0 : named.split(",").length;
    }

    private static void everyRefusalHasARow(List<String> page) {
        int rows = 0;
        for (String line : page) {
            if (line.matches("\\| -[0-9].*")) {
                String[] cells = line.replace("`", "").split("\\|");
                rows++;
                check.same(line, Integer.parseInt(cells[1].trim()), TOLD.getOrDefault(cells[2].trim(), 0));
            }
        }
        // NONE is an answer, and told below the rows.
        check.same("rows of refusals and findings", rows, TOLD.size() - 1);
    }

    private static void theExample(List<String> page) {
        DrumSlits x = Check.strips("0000;1100;2201", "");
        says(page, "x.whole(0);", x.whole(0), "10:");
        says(page, "x.place(0, 2, 3);", x.place(0, 2, 3), "1:");
        says(page, "x.place(0, 3, 0);", x.place(0, 3, 0), "-2, BAD:");
        says(page, "x.drum(12, 13, 1);", x.drum(12, 13, 1), "2:");
        says(page, "x.drift(12, 13, 0);", x.drift(12, 13, 0), "1 ..");
        says(page, "x.drift(12, 13, 1);", x.drift(12, 13, 1), ".. by 12 of");
        check.same("x.drift(0, 13, 0)", x.drift(0, 13, 0), Long.MIN_VALUE + 2);
        says(page, "x.put(3, 0, 0, 7);", x.put(3, 0, 0, 7), "-11, NULL:");
        says(page, "x.count(8);", x.count(8), "1:");
    }

    /** The line of this call has a comment that begins so, and the number in it is the answer. */
    private static void says(List<String> page, String call, long answer, String comment) {
        boolean found = false;
        for (String line : page) {
            found |= line.startsWith(call) && line.substring(call.length()).trim().startsWith("// " + comment);
        }
        check.same(call + " // " + comment + " on the page", found ? 1 : 0, 1);
        check.same(call, answer, Long.parseLong(comment.replaceAll("[^-0-9]", "")));
    }
}
