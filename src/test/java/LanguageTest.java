import java.io.IOException;
import java.lang.reflect.Field;
import java.lang.reflect.Method;
import java.lang.reflect.Modifier;
import java.nio.file.Files;
import java.nio.file.Path;
import java.util.ArrayList;
import java.util.List;
import java.util.regex.Matcher;
import java.util.regex.Pattern;

/** Those rules of ../shared/LANGUAGE.md that can be seen from the text of the class, or from its members. */
public final class LanguageTest {
    private static final String SOURCE = "src/main/java/Traversehall.java";
    private static final int MAX_CLASSES = 12;
    private static final int MAX_FIELDS = 20;
    private static final int MAX_PARAMETERS = 7;
    private static final int MAX_LINES = 60;
    private static final String[] BARRED = {"\\bpackage\\b", "\\bcatch\\b", "\\btry\\b", "\\bfinally\\b",
        "\\bsynchronized\\b", "\\bassert\\b", "->", "::", "\\bvar\\b", "\\bObject\\b", "\\bsuper\\b",
        "static \\{", "\\.(equals|hashCode|toString|getMessage|getClass)\\(", "Exact\\(", "\\bNaN\\b",
        "\\bSystem\\.(?!arraycopy)", "Math\\.(?!abs|min|max|floorDiv|floorMod)", "\\b(Random|Thread|File|Class)\\b",
        "\" ?\\+|\\+ ?\"", "\\bwhile \\(true\\)"};
    private static final String THROWN = "throw new (IllegalStateException|IllegalArgumentException"
            + "|IndexOutOfBoundsException|ArithmeticException|UnsupportedOperationException|NoSuchElementException)"
            + "\\(\"[^\"]*\"\\);";

    private static final List<String> WRONG = new ArrayList<>();

    public static void main(String[] args) throws IOException {
        String text = Files.readString(Path.of(SOURCE));
        String bare = text.replaceAll("(?s)/\\*.*?\\*/", "").replaceAll("//[^\n]*", "");
        checkText(text, bare);
        checkMethods(bare);
        checkClasses();
        for (String wrong : WRONG) {
            System.out.println(wrong);
        }
        System.out.println("the language looked at, " + WRONG.size() + " wrong");
        if (!WRONG.isEmpty()) {
            System.exit(1);
        }
    }

    private static void checkText(String text, String bare) {
        for (String barred : BARRED) {
            Matcher matcher = Pattern.compile(barred).matcher(bare);
            if (matcher.find()) {
                WRONG.add("not in the language: " + matcher.group());
            }
        }
        if (!text.chars().allMatch(sign -> sign >= 1 && sign <= 127)) {
            WRONG.add("a sign that is not from 1 to 127");
        }
        for (String line : bare.split("\n")) {
            if (line.startsWith("import") && !line.equals("import java.util.NoSuchElementException;")) {
                WRONG.add("another import: " + line);
            }
            if (line.contains("throw ") && !line.trim().matches(THROWN)) {
                WRONG.add("another throw: " + line.trim());
            }
            // Rule 12: what a run makes is counted, so that rows are made with the object, and none by a call.
            if (line.matches(".*\\bnew\\b.*") && !line.trim().matches("throw new .*|private final .* = new .*")) {
                WRONG.add("made by a call: " + line.trim());
            }
        }
    }

    /** A method begins with a line that ends in a brace behind its parameters, and ends with a brace in its column. */
    private static void checkMethods(String bare) {
        String[] lines = bare.split("\n");
        Pattern head = Pattern.compile("^( {4}| {8})(?! )[a-z][\\w\\[\\] ]* \\w+\\([^)]*\\).*$");
        int found = 0;
        for (int from = 0; from < lines.length; from++) {
            Matcher matcher = head.matcher(lines[from]);
            if (!matcher.matches() || lines[from].contains("=") || lines[from].endsWith(";")) {
                continue;
            }
            int to = from;
            while (to < lines.length && !lines[to].equals(matcher.group(1) + "}")) {
                to++;
            }
            found++;
            if (to - from >= MAX_LINES) {
                WRONG.add("a long method: " + lines[from].trim());
            }
        }
        if (found < 100) {
            WRONG.add("no more than " + found + " methods were found");
        }
    }

    private static void checkClasses() {
        List<Class<?>> classes = new ArrayList<>(List.of(Traversehall.class.getDeclaredClasses()));
        classes.add(Traversehall.class);
        if (classes.size() > MAX_CLASSES) {
            WRONG.add("too many classes: " + classes.size());
        }
        for (Class<?> one : classes) {
            int fields = 0;
            for (Field field : one.getDeclaredFields()) {
                boolean isStatic = Modifier.isStatic(field.getModifiers());
                fields += isStatic ? 0 : 1;
                if (isStatic && !Modifier.isFinal(field.getModifiers())) {
                    WRONG.add("a static field that is not final: " + field);
                }
            }
            if (fields > MAX_FIELDS) {
                WRONG.add("too many fields: " + one.getName());
            }
            for (Method method : one.getDeclaredMethods()) {
                if (method.getParameterCount() > MAX_PARAMETERS) {
                    WRONG.add("too many parameters: " + method);
                }
            }
        }
    }
}
