import java.io.IOException;
import java.lang.reflect.Method;
import java.lang.reflect.Modifier;
import java.nio.file.Files;
import java.nio.file.Path;
import java.util.ArrayList;
import java.util.List;

/** The README's example answers what it says, and its table has every call. It is run from the project's root. */
public final class ReadmeTest {
    private static final Path README = Path.of("README.md");

    public static void main(String[] args) throws IOException {
        List<String> lines = Files.readAllLines(README);
        answersAsTheExampleSays(answersOf(lines));
        hasEveryCall(lines);
        Check.end();
    }

    /** "x.event(0) 18" for each line of the example that tells an answer. */
    private static List<String> answersOf(List<String> lines) {
        List<String> answers = new ArrayList<>();
        for (String line : lines) {
            if (line.matches("x\\..*; +// -?\\d+.*")) {
                answers.add(line.replaceFirst("; +// (-?\\d+).*", " $1"));
            }
        }
        return answers;
    }

    private static void answersAsTheExampleSays(List<String> told) {
        List<String> answers = new ArrayList<>();
        FileIndexer x = new FileIndexer();
        answers.add("x.make(1, 0, true) " + x.make(1, 0, true));
        answers.add("x.make(2, 1, false) " + x.make(2, 1, false));
        answers.add("x.write(2, 0x2352656420636172L, 8) " + x.write(2, 0x2352656420636172L, 8));
        answers.add("x.event(0) " + x.event(0));
        answers.add("x.work(8) " + x.work(8));
        answers.add("x.words(2) " + x.words(2));
        Check.type(x, "red -cat");
        answers.add("x.search(0) " + x.search(0));
        answers.add("x.result(0, 0) " + x.result(0, 0));
        answers.add("x.result(0, 1) " + x.result(0, 1));
        x.type('|');
        Check.thrown(x, "x.search(1)", Check.ARGUMENT, y -> y.search(1));
        answers.add("x.fault() " + x.fault());
        Check.dueText("the example", answers.toString(), told.toString());
    }

    private static void hasEveryCall(List<String> lines) {
        for (Method method : FileIndexer.class.getDeclaredMethods()) {
            if (Modifier.isPublic(method.getModifiers())) {
                String row = "| `" + method.getName() + "(";
                long rows = lines.stream().filter(line -> line.startsWith(row)).count();
                Check.due("rows of " + method.getName(), 1, rows);
                lines.stream().filter(line -> line.startsWith(row)).forEach(line -> throwsAsTold(method, line));
            }
        }
    }

    private static void throwsAsTold(Method method, String row) {
        StringBuilder thrown = new StringBuilder();
        for (Class<?> each : method.getExceptionTypes()) {
            String letter = each.getSimpleName().replace("Illegal", "").substring(0, 1);
            thrown.append(thrown.isEmpty() ? "" : ", ").append(letter);
        }
        String[] cells = row.split("\\|");
        Check.dueText("what " + method.getName() + " throws", thrown.toString(), cells[3].trim());
    }
}
