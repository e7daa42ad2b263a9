import java.io.IOException;
import java.lang.reflect.Method;
import java.lang.reflect.Modifier;
import java.nio.file.Files;
import java.nio.file.Path;
import java.util.ArrayList;
import java.util.HashMap;
import java.util.List;
import java.util.Map;
import java.util.Set;
import java.util.TreeSet;
import java.util.regex.Matcher;
import java.util.regex.Pattern;

/** What README.md says of the class holds: its example is run, its tables name the whole face. */
public final class ReadmeTest {
    private static final Path README = Path.of("README.md");
    private static final Pattern CALL = Pattern.compile("(?:int (\\w+) = )?reader\\.(\\w+)\\(([^)]*)\\); +// (\\S+)(.*)");
    private static final Pattern TOLD = Pattern.compile("\\| `(\\w+)\\(([^)]*)\\)` \\|.*");
    private static final String FENCE = "```";

    private final Check check = new Check();
    private final GraveyardReader reader = new GraveyardReader();
    private final Map<String, String> files = new HashMap<>();

    public static void main(String[] args) throws IOException {
        List<String> rows = Files.readAllLines(README);
        ReadmeTest test = new ReadmeTest();
        test.theExample(rows);
        test.theTables(rows);
        test.check.end();
    }

    private void theExample(List<String> rows) {
        Set<String> called = new TreeSet<>();
        int begins = rows.indexOf(FENCE + "java") + 1;
        for (int i = begins; begins > 0 && !rows.get(i).equals(FENCE); i++) {
            String row = rows.get(i);
            Matcher call = CALL.matcher(row);
            if (call.matches()) {
                theCall(call);
                called.add(call.group(2));
            } else if (!row.isEmpty() && !row.equals("GraveyardReader reader = new GraveyardReader();")) {
                check.complain("the example's row is no call with an answer: " + row);
            }
        }
        check.same("the example calls", publicNames().toString(), called.toString());
    }

    private void theCall(Matcher row) {
        List<String> arguments = new ArrayList<>();
        for (String told : row.group(3).isEmpty() ? new String[0] : row.group(3).split(", ")) {
            arguments.add(files.getOrDefault(told, told));
        }
        String call = row.group(2) + "(" + String.join(", ", arguments) + ")";
        String due = row.group(4).equals("throws") ? row.group(5).trim() : row.group(4).replace(":", "");
        String got = Calls.answer(reader, call);
        check.same("the example's " + call, due, got);
        if (row.group(1) != null) {
            files.put(row.group(1), got);
        }
    }

    private void theTables(List<String> rows) {
        List<String> told = new ArrayList<>();
        for (String row : rows) {
            Matcher method = TOLD.matcher(row);
            if (method.matches()) {
                String arguments = method.group(2);
                told.add(method.group(1) + (arguments.isEmpty() ? 0 : arguments.split(", ").length));
            }
        }
        List<String> due = new ArrayList<>();
        for (Method method : GraveyardReader.class.getDeclaredMethods()) {
            if (Modifier.isPublic(method.getModifiers())) {
                due.add(method.getName() + method.getParameterCount());
            }
        }
        told.sort(null);
        due.sort(null);
        check.same("the tables' calls, with their number of arguments", due.toString(), told.toString());
    }

    private static Set<String> publicNames() {
        Set<String> names = new TreeSet<>();
        for (Method method : GraveyardReader.class.getDeclaredMethods()) {
            if (Modifier.isPublic(method.getModifiers())) {
                names.add(method.getName());
            }
        }
        return names;
    }
}
