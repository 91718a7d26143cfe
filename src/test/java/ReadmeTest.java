import java.io.IOException;
import java.lang.reflect.Method;
import java.lang.reflect.Modifier;
import java.nio.file.Files;
import java.nio.file.Path;
import java.util.regex.Matcher;
import java.util.regex.Pattern;
import javax.tools.ToolProvider;

/** That README.md is right: its example is compiled and run, and the rules in it are rules. */
public final class ReadmeTest {
    private static final Path README = Path.of("README.md");
    private static final Pattern ANSWER = Pattern.compile("(?:int|boolean) (\\w+) = (book\\..*); +// (-?\\d+|true|false)\\b.*");
    private static final String EXAMPLE = "ReadmeExample";

    public static void main(String[] args) throws Exception {
        String text = Files.readString(README);
        String example = block(text, "java");
        usesEveryCall(example);
        answersAsWritten(example);
        showsRules(block(text, "text"));
        Checks.finish("ReadmeTest");
    }

    /** The first block of code in a language. */
    private static String block(String text, String language) {
        Matcher matcher = Pattern.compile("(?s)```" + language + "\n(.*?)```").matcher(text);
        Checks.due("README.md has a block of " + language, matcher.find(), true);
        return matcher.group(1);
    }

    private static void usesEveryCall(String example) {
        for (Method method : RecurrenceBook.class.getDeclaredMethods()) {
            if (Modifier.isPublic(method.getModifiers())) {
                Checks.due("the example calls " + method.getName(), example.contains("book." + method.getName() + "("), true);
            }
        }
    }

    private static void answersAsWritten(String example) throws IOException, ReflectiveOperationException {
        Path classes = Path.of(System.getProperty("java.class.path"));
        Path source = classes.resolve(EXAMPLE + ".java");
        Files.writeString(source, program(example));
        int failed = ToolProvider.getSystemJavaCompiler()
            .run(null, null, null, "-cp", classes.toString(), "-d", classes.toString(), source.toString());
        Checks.due("the example compiles (0: it does)", failed, 0);
        if (failed == 0) {
            Class.forName(EXAMPLE).getDeclaredMethod("run").invoke(null);
        }
    }

    /** The example, with a look at each answer that stands behind a call. */
    private static String program(String example) {
        StringBuilder program = new StringBuilder("final class " + EXAMPLE + " {\nstatic void run() {\n");
        int answers = 0;
        for (String line : example.split("\n")) {
            program.append(line).append('\n');
            Matcher matcher = ANSWER.matcher(line);
            if (matcher.matches()) {
                answers++;
                program.append("Checks.due(\"README.md: " + matcher.group(2) + "\", " + matcher.group(1) + ", "
                    + matcher.group(3) + ");\n");
            }
        }
        // Each line that keeps an answer says it, too.
        Checks.due("answers written in the example", answers, example.split(" = book\\.", -1).length - 1);
        return program.append("}\n}\n").toString();
    }

    private static void showsRules(String rules) {
        for (String line : rules.split("\n")) {
            String rule = line.split(" ", 2)[0];
            RecurrenceBook book = new RecurrenceBook();
            Checks.type(book, rule);
            Checks.due("event by " + rule + " (kind of exception)", Checks.thrown(() -> book.event(0, 0, 1)), Checks.NOTHING);
        }
    }
}
