import java.io.File;
import java.lang.reflect.Method;
import java.lang.reflect.Modifier;
import java.nio.charset.StandardCharsets;
import java.nio.file.Files;
import java.nio.file.Path;
import java.util.ArrayList;
import java.util.List;
import java.util.regex.Matcher;
import java.util.regex.Pattern;

/**
 * What README.md says is so: the answers in its examples, its table of calls, the tests that it names. The second
 * argument is the document, the third one README.md.
 */
final class ReadmeTest {
    private static final Pattern ROW =
        Pattern.compile("(?m)^\\| `(\\w+)\\((.*?)\\)`( \\*)? \\| .*\\S \\| (.*\\S) \\|$");
    private static final List<String> EXCEPTIONS =
        List.of("IndexOutOfBoundsException", "IllegalArgumentException", "IllegalStateException");

    private final Check check = new Check("ReadmeTest");
    private final String page;
    private final String document;

    private ReadmeTest(Path document, Path page) throws Exception {
        this.document = Files.readString(document, StandardCharsets.UTF_8);
        this.page = Files.readString(page, StandardCharsets.UTF_8);
    }

    /** Text that may stand on two lines. */
    private static boolean says(String text, String words) {
        return text.replaceAll("\\s+", " ").contains(words);
    }

    private static String row(String name, int arguments, boolean isUndoable, String thrown) {
        return name + " with " + arguments + (isUndoable ? ", undoable, throws " : ", throws ") + thrown;
    }

    private static String thrownBy(Method method) {
        List<String> names = new ArrayList<>();
        for (Class<?> exception : method.getExceptionTypes()) {
            names.add("`" + exception.getSimpleName() + "`");
        }
        return names.isEmpty() ? "nothing" : String.join(", ", names);
    }

    private boolean isUndoable(String name) {
        Matcher promise = Pattern.compile("(?m)^## Promise \\d+: " + name + "\n\n(.*)$").matcher(document);
        return promise.find() && promise.group(1).matches(".* Undoable[.,].*");
    }

    private static int arguments(String list) {
        return list.isEmpty() ? 0 : list.split(",").length;
    }

    private void examples() throws Exception {
        Examples examples = new Examples(page);
        examples.check(check);
        for (Method method : LaceRanks.class.getDeclaredMethods()) {
            if (Modifier.isPublic(method.getModifiers())) {
                boolean isShown = examples.code().contains("x." + method.getName() + "(");
                check.due("an example calls " + method.getName(), isShown, true);
            }
        }
        for (String name : EXCEPTIONS) {
            check.due("an example throws " + name, examples.code().contains("// throws " + name), true);
            check.due("it is told when " + name + " is thrown", page.contains("\n- `" + name + "`: "), true);
        }
    }

    private void table() {
        List<String> rows = new ArrayList<>();
        Matcher row = ROW.matcher(page);
        while (row.find()) {
            rows.add(row(row.group(1), arguments(row.group(2)), row.group(3) != null, row.group(4)));
        }
        int methods = 0;
        for (Method method : LaceRanks.class.getDeclaredMethods()) {
            if (Modifier.isPublic(method.getModifiers())) {
                methods++;
                String name = method.getName();
                String due = row(name, method.getParameterCount(), isUndoable(name), thrownBy(method));
                check.due("the table has " + due, rows.contains(due), true);
            }
        }
        check.due("rows of the table", rows.size(), methods);
    }

    private void calls() {
        String calls = "at most 512 calls after it has been made";
        check.due("the document says " + calls, says(document, "An object is used for " + calls), true);
        check.due("README says " + calls, says(page, "An object is good for " + calls), true);
    }

    private void tests(Path root) {
        check.due("README says how all tests are run", says(page, "One command runs all tests: .ci/run "), true);
        check.due(".ci/run can be run", Files.isExecutable(root.resolve(".ci/run")), true);
        String section = page.substring(Math.max(page.indexOf("## How the tests are run"), 0));
        File[] files = root.resolve("src/test/java").toFile().listFiles();
        check.due("there are tests", files != null && files.length > 0, true);
        for (File file : files == null ? new File[0] : files) {
            String name = file.getName().replace(".java", "");
            check.due("README names " + name, section.contains("`" + name + "`"), true);
        }
    }

    public static void main(String[] args) throws Exception {
        Path page = Path.of(args[2]).toAbsolutePath();
        ReadmeTest test = new ReadmeTest(Path.of(args[1]), page);
        test.examples();
        test.table();
        test.calls();
        test.tests(page.getParent());
        test.check.end();
    }
}
