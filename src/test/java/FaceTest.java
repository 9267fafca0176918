import java.lang.reflect.Constructor;
import java.lang.reflect.Field;
import java.lang.reflect.Method;
import java.lang.reflect.Modifier;
import java.util.Set;
import java.util.TreeSet;

/** The class has the document's face and nothing else that can be seen from outside. */
public final class FaceTest {
    public static void main(String[] args) {
        Set<String> due = new TreeSet<>(Set.of(
            "int make(int,int,boolean) IllegalArgumentException IllegalStateException",
            "int write(int,long,int) NoSuchElementException IllegalArgumentException IllegalStateException",
            "int cut(int,int) NoSuchElementException IllegalArgumentException",
            "int remove(int) IllegalArgumentException NoSuchElementException"));
        due.addAll(Set.of(
            "int move(int,int) IllegalArgumentException NoSuchElementException IllegalStateException",
            "int work(int) IllegalArgumentException IllegalStateException",
            "int rescan()",
            "int type(int) IllegalArgumentException IllegalStateException",
            "int search(int) NoSuchElementException IllegalArgumentException",
            "int fault()",
            "int result(int,int) NoSuchElementException IllegalArgumentException",
            "int words(int) NoSuchElementException",
            "int event(int) NoSuchElementException",
            "int count(int) IllegalArgumentException"));
        Set<String> seen = new TreeSet<>();
        Set<String> names = new TreeSet<>();
        for (Method method : FileIndexer.class.getDeclaredMethods()) {
            if (!Modifier.isPrivate(method.getModifiers())) {
                seen.add(textOf(method));
                names.add(method.getName());
            }
        }
        Check.dueText("the methods", due.toString(), seen.toString());
        hidesTheRest(names);
        Check.end();
    }

    private static void hidesTheRest(Set<String> names) {
        Check.due("final", 1, Modifier.isFinal(FileIndexer.class.getModifiers()) ? 1 : 0);
        for (Method method : FileIndexer.class.getDeclaredMethods()) {
            boolean shadows = Modifier.isPrivate(method.getModifiers()) && names.contains(method.getName());
            Check.due("a private " + method.getName(), 0, shadows ? 1 : 0);
        }
        for (Field field : FileIndexer.class.getDeclaredFields()) {
            Check.due("private " + field.getName(), 1, Modifier.isPrivate(field.getModifiers()) ? 1 : 0);
        }
        Constructor<?>[] constructors = FileIndexer.class.getDeclaredConstructors();
        Check.due("constructors", 1, constructors.length);
        Check.due("its parameters", 0, constructors[0].getParameterCount());
        Check.due("it is public", 1, Modifier.isPublic(constructors[0].getModifiers()) ? 1 : 0);
        for (Class<?> inside : FileIndexer.class.getDeclaredClasses()) {
            int modifiers = inside.getModifiers();
            boolean hidden = !Modifier.isPublic(modifiers) && !Modifier.isProtected(modifiers);
            Check.due("hidden and static " + inside, 1, hidden && Modifier.isStatic(modifiers) ? 1 : 0);
        }
    }

    private static String textOf(Method method) {
        StringBuilder text = new StringBuilder();
        text.append(method.getReturnType().getSimpleName()).append(' ').append(method.getName()).append('(');
        String comma = "";
        for (Class<?> parameter : method.getParameterTypes()) {
            text.append(comma).append(parameter.getSimpleName());
            comma = ",";
        }
        text.append(')');
        for (Class<?> thrown : method.getExceptionTypes()) {
            text.append(' ').append(thrown.getSimpleName());
        }
        return text.toString();
    }
}
