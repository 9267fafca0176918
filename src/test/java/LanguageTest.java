import java.io.IOException;
import java.lang.reflect.Executable;
import java.lang.reflect.Field;
import java.lang.reflect.Method;
import java.lang.reflect.Modifier;
import java.nio.file.Files;
import java.nio.file.Path;
import java.util.ArrayList;
import java.util.Arrays;
import java.util.List;
import java.util.regex.Pattern;

/** The rules of ../shared/LANGUAGE.md that can be seen by a plain look. It is run from the project's root. */
public final class LanguageTest {
    private static final Path SOURCE = Path.of("src/main/java/FileIndexer.java");
    private static final List<Class<?>> CONSTANTS = List.of(int.class, long.class, boolean.class, char.class,
        String.class, int[].class, long[].class, char[].class, byte[].class);

    public static void main(String[] args) throws IOException {
        List<Class<?>> classes = new ArrayList<>(List.of(FileIndexer.class));
        classes.addAll(Arrays.asList(FileIndexer.class.getDeclaredClasses()));
        Check.due("some twelve classes", 1, classes.size() <= 12 ? 1 : 0);
        for (Class<?> each : classes) {
            fieldsOf(each);
            methodsOf(each);
        }
        textOf(Files.readString(SOURCE));
        Check.end();
    }

    /** Rules 5 and 11: "Static fields are final: constants", "some twenty fields beside its constants" */
    private static void fieldsOf(Class<?> owner) {
        int fields = 0;
        for (Field field : owner.getDeclaredFields()) {
            if (Modifier.isStatic(field.getModifiers())) {
                boolean constant = Modifier.isFinal(field.getModifiers()) && CONSTANTS.contains(field.getType());
                Check.due("a constant " + field, 1, constant ? 1 : 0);
            } else {
                fields++;
            }
        }
        Check.due("some twenty fields of " + owner, 1, fields <= 20 ? 1 : 0);
    }

    /** Rule 11: "A method takes at most seven parameters." */
    private static void methodsOf(Class<?> owner) {
        List<Executable> all = new ArrayList<>(Arrays.asList(owner.getDeclaredConstructors()));
        for (Method method : owner.getDeclaredMethods()) {
            Check.due("own code, no lambda: " + method, 0, method.isSynthetic() ? 1 : 0);
            all.add(method);
        }
        for (Executable each : all) {
            Check.due("at most seven parameters: " + each, 1, each.getParameterCount() <= 7 ? 1 : 0);
        }
    }

    /** Rules 1, 4, 6 and 13: what the source may not have at all. */
    private static void textOf(String source) {
        String code = source.replaceAll("(?s)/\\*.*?\\*/", "").replaceAll("//.*", "");
        String[] never = {"package ", "->", "::", "finally", "synchronized", "assert", "Exact\\(", "static \\{",
            "System\\.(?!arraycopy)", "Random", "Thread", "hashCode", "toString", "getMessage",
            "import (?!java\\.util\\.NoSuchElementException;)"};
        for (String each : never) {
            Check.due("the source has " + each, 0, Pattern.compile(each).matcher(code).results().count());
        }
        Check.due("throws with a text or none alone", 0,
            Pattern.compile("throw (?!new \\w+\\((\"[^\"]*\")?\\);)").matcher(code).results().count());
    }
}
