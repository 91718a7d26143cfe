import java.lang.reflect.Constructor;
import java.lang.reflect.Field;
import java.lang.reflect.Method;
import java.lang.reflect.Modifier;
import java.util.Arrays;
import java.util.Set;
import java.util.TreeSet;

/** The public face of the document, and LANGUAGE.md's rules 1 and 5 as far as they can be seen from outside. */
public final class FaceTest {
    private static final String[] FACE = {
        "boolean type(char)",
        "void zone(int, int, int, int, int, int) IllegalArgumentException",
        "int event(int, int, int) IllegalStateException IllegalArgumentException",
        "boolean exclude(int, int) NoSuchElementException",
        "int times(int) NoSuchElementException",
        "int day(int, int) NoSuchElementException",
        "int moment(int, int) NoSuchElementException",
        "int local(int)",
        "int date(int, int, int)",
        "int busy(int, int) IllegalArgumentException",
        "int span(int, boolean) NoSuchElementException",
        "int clash(int, int) NoSuchElementException"};

    public static void main(String[] args) {
        hasTheMethodsOfTheDocument();
        hasOneConstructor();
        hidesAllElse();
        Checks.finish("FaceTest");
    }

    private static String describe(Method method) {
        StringBuilder text = new StringBuilder();
        text.append(method.getReturnType().getSimpleName()).append(' ').append(method.getName()).append('(');
        String separator = "";
        for (Class<?> type : method.getParameterTypes()) {
            text.append(separator).append(type.getSimpleName());
            separator = ", ";
        }
        text.append(')');
        for (Class<?> type : method.getExceptionTypes()) {
            text.append(' ').append(type.getSimpleName());
        }
        return text.toString();
    }

    private static void hasTheMethodsOfTheDocument() {
        Set<String> due = new TreeSet<>(Arrays.asList(FACE));
        Set<String> found = new TreeSet<>();
        for (Method method : RecurrenceBook.class.getDeclaredMethods()) {
            if (!Modifier.isPrivate(method.getModifiers())) {
                found.add(describe(method));
            }
        }
        Checks.due("the methods " + found + " are those of the document", found.equals(due), true);
    }

    private static void hasOneConstructor() {
        Constructor<?>[] all = RecurrenceBook.class.getDeclaredConstructors();
        Checks.due("constructors", all.length, 1);
        Checks.due("parameters", all[0].getParameterCount(), 0);
        Checks.due("public constructor", Modifier.isPublic(all[0].getModifiers()), true);
        int modifiers = RecurrenceBook.class.getModifiers();
        Checks.due("public final class", Modifier.isPublic(modifiers) && Modifier.isFinal(modifiers), true);
    }

    private static void hidesAllElse() {
        Set<String> faceNames = new TreeSet<>();
        for (String line : FACE) {
            faceNames.add(line.substring(line.indexOf(' ') + 1, line.indexOf('(')));
        }
        for (Field field : RecurrenceBook.class.getDeclaredFields()) {
            Checks.due("private field " + field, Modifier.isPrivate(field.getModifiers()), true);
            boolean fixed = !Modifier.isStatic(field.getModifiers()) || Modifier.isFinal(field.getModifiers());
            Checks.due("no static state " + field, fixed, true);
        }
        for (Method method : RecurrenceBook.class.getDeclaredMethods()) {
            boolean doubled = Modifier.isPrivate(method.getModifiers()) && faceNames.contains(method.getName());
            Checks.due("a private method with a public name " + method, doubled, false);
        }
        for (Class<?> inside : RecurrenceBook.class.getDeclaredClasses()) {
            boolean open = Modifier.isPublic(inside.getModifiers()) || Modifier.isProtected(inside.getModifiers());
            Checks.due("an open class " + inside, open, false);
            Checks.due("static " + inside, Modifier.isStatic(inside.getModifiers()), true);
        }
    }
}
