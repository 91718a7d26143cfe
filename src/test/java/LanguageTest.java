import java.io.IOException;
import java.nio.file.Files;
import java.nio.file.Path;
import java.util.ArrayList;
import java.util.LinkedHashMap;
import java.util.List;
import java.util.Map;
import java.util.Set;
import java.util.TreeSet;
import java.util.regex.Matcher;
import java.util.regex.Pattern;

/** Rules of LANGUAGE.md that can be seen in the text of the program; it is run in the project's directory. */
public final class LanguageTest {
    private static final Path SOURCE = Path.of("src/main/java/RecurrenceBook.java");
    private static final Set<String> IMPORTS = Set.of("java.util.NoSuchElementException", "java.util.ArrayList", "java.util.List",
        "java.util.Arrays", "java.util.Iterator");
    private static final Set<String> EXCEPTIONS = Set.of("IllegalStateException", "IllegalArgumentException",
        "IndexOutOfBoundsException", "ArithmeticException", "UnsupportedOperationException", "NoSuchElementException",
        "RuntimeException");
    private static final Set<String> WORDS = Set.of("if", "for", "while", "switch", "return", "super", "this", "catch");
    private static final Pattern METHOD = Pattern.compile("^( {4}| {8})(?! )(?:[\\w\\[\\]]+ )*(\\w+)\\(([^)]*)\\)(?: throws [\\w, ]+)? \\{$");
    private static final Pattern CALL = Pattern.compile("(new )?\\b(\\w+)\\(");

    private final String code;
    private final Map<String, List<String>> bodies = new LinkedHashMap<>();

    private LanguageTest(String code) {
        this.code = code;
    }

    public static void main(String[] args) throws IOException {
        LanguageTest test = new LanguageTest(withoutCommentsAndTexts(Files.readString(SOURCE)));
        test.importsWhatIsListed();
        test.hasNoForbiddenWord();
        test.throwsWhatIsListed();
        test.keepsStaticFieldsFinal();
        test.keepsMethodsShort();
        test.keepsCallsShallow();
        test.hasFewClasses();
        Checks.finish("LanguageTest");
    }

    private static String withoutCommentsAndTexts(String source) {
        return source.replaceAll("(?s)/\\*.*?\\*/", "").replaceAll("//.*", "").replaceAll("\"[^\"]*\"", "\"\"");
    }

    private List<String> all(String pattern) {
        List<String> found = new ArrayList<>();
        Matcher matcher = Pattern.compile(pattern, Pattern.MULTILINE).matcher(code);
        while (matcher.find()) {
            found.add(matcher.group(matcher.groupCount() > 0 ? 1 : 0).trim());
        }
        return found;
    }

    private void importsWhatIsListed() {
        for (String name : all("^import (.*);")) {
            Checks.due("import " + name + " is listed", IMPORTS.contains(name), true);
        }
        Checks.due("package lines", all("^package ").size(), 0);
        Checks.due("names with a package", all("\\bjava\\.").size(), all("^import ").size());
    }

    /** Rules 2, 4, 6 and 13. */
    private void hasNoForbiddenWord() {
        String[] forbidden = {"->", "::", "\\bsynchronized\\b", "\\bassert\\b", "\\bfinally\\b", "\\btry\\b", "static \\{",
            "\\w+Exact\\(", "\\bSystem\\.(?!arraycopy)", "\\bThread\\b", "\\bRandom\\b", "\\bvar\\b", "\\binstanceof\\b",
            "\\.(?:getMessage|hashCode|toString|format|valueOf|values)\\(", "\\bextends\\b", "\\bnative\\b", "\\bvolatile\\b"};
        for (String pattern : forbidden) {
            Checks.due("uses of " + pattern, all(pattern).size(), 0);
        }
    }

    /** Rule 6. */
    private void throwsWhatIsListed() {
        for (String name : all("throw new (\\w+)\\(")) {
            Checks.due("throw of " + name + " is listed", EXCEPTIONS.contains(name), true);
        }
        Checks.due("all throws are new ones", all("\\bthrow\\b").size(), all("throw new \\w+\\(\"\"\\);").size());
    }

    /** Rule 5. */
    private void keepsStaticFieldsFinal() {
        for (String line : all("^.*\\bstatic\\b.*;$")) {
            boolean constant = line.matches("private static final (int|long|boolean|char|String|int\\[\\]|long\\[\\]|char\\[\\]|byte\\[\\]) [A-Z_]+ = .*;");
            Checks.due("a constant: " + line, constant, true);
        }
    }

    /** Rule 11: some sixty lines, at most seven parameters. */
    private void keepsMethodsShort() {
        String[] lines = code.split("\n");
        for (int i = 0; i < lines.length; i++) {
            Matcher head = METHOD.matcher(lines[i]);
            if (!head.matches()) {
                continue;
            }
            int end = i;
            while (end < lines.length && !lines[end].equals(head.group(1) + "}")) {
                end++;
            }
            String name = head.group(2);
            Checks.due("end of " + name + " is there", end < lines.length, true);
            Checks.due("lines of " + name + " are at most 60, not " + (end - i + 1), end - i + 1 <= 60, true);
            Checks.due("parameters of " + name + " are at most 7", head.group(3).split(",").length <= 7, true);
            bodies.computeIfAbsent(name, none -> new ArrayList<>()).addAll(List.of(lines).subList(i + 1, end));
        }
        Checks.due("methods were found", bodies.size() > 20, true);
    }

    /** Rules 8 and 11: no recursion, and at most eight calls deep; methods with one name are taken for one. */
    private void keepsCallsShallow() {
        for (String name : bodies.keySet()) {
            int depth = depthOf(name, new TreeSet<>());
            Checks.due("depth of " + name + " is at most 8, not " + depth, depth <= 8, true);
        }
    }

    private int depthOf(String name, Set<String> open) {
        if (!open.add(name)) {
            Checks.due("recursion over " + name + " by " + open, true, false);
            return 0;
        }
        int deepest = 0;
        for (String line : bodies.getOrDefault(name, List.of())) {
            Matcher call = CALL.matcher(line);
            while (call.find()) {
                if (!WORDS.contains(call.group(2))) {
                    deepest = Math.max(deepest, depthOf(call.group(2), open));
                }
            }
        }
        open.remove(name);
        return deepest + 1;
    }

    /** Rule 11: some twelve. */
    private void hasFewClasses() {
        int classes = all("\\b(?:class|enum|interface|record) \\w+").size();
        Checks.due("classes are at most 12, not " + classes, classes <= 12, true);
    }
}
