import java.io.IOException;
import java.lang.reflect.Field;
import java.lang.reflect.Method;
import java.lang.reflect.Modifier;
import java.nio.file.Files;
import java.nio.file.Path;
import java.util.ArrayList;
import java.util.List;
import java.util.Set;
import java.util.TreeSet;
import java.util.regex.Matcher;
import java.util.regex.Pattern;

/** The rules of LANGUAGE.md that can be read off the program's file or its compiled classes. */
public final class LanguageTest {
    private static final Path PROGRAM = Path.of("src/main/java/CarvedSolids.java");
    private static final Set<String> LIBRARY = Set.of("java.util.NoSuchElementException", "java.util.ArrayList",
            "java.util.List", "java.util.Arrays", "java.util.Iterator");
    private static final Set<String> CONSTANTS = Set.of("int", "long", "boolean", "char", "String", "int[]",
            "long[]", "char[]", "byte[]");
    private static final Set<String> EXCEPTIONS = Set.of("IllegalStateException", "IllegalArgumentException",
            "IndexOutOfBoundsException", "ArithmeticException", "UnsupportedOperationException",
            "NoSuchElementException", "RuntimeException");
    private static final String[][] RULED_OUT = {
        {"2", "->"}, {"2", "::"}, {"4", "\\w+Exact\\("}, {"4", "System\\.(?!arraycopy)"}, {"5", "static\\s*\\{"},
        {"6", "\\bfinally\\b"}, {"6", "\\bsynchronized\\b"}, {"6", "\\bassert\\b"}, {"6", "\\btry\\s*\\("},
        {"6", "\\bextends\\s+\\w*(Exception|Error|Throwable)\\b"}, {"6", "\\b(hashCode|toString|getMessage)\\b"},
        {"13", "\\b(Random|Thread|File|Files|Runtime|nanoTime|currentTimeMillis)\\b"},
    };

    private final Check check = new Check("LanguageTest");

    public static void main(String[] args) throws IOException {
        new LanguageTest().rules(Files.readString(PROGRAM));
    }

    private void rules(String text) {
        String code = withoutComments(text);
        rule(1, "no package line", !Pattern.compile("(?m)^\\s*package\\b").matcher(code).find());
        namesApart();
        imports(code);
        ruledOut(code);
        staticFields();
        throwsAreWritten(code);
        sizes();
        methodLengths(text);
        check.end();
    }

    private void rule(int number, String what, boolean holds) {
        check.dueText("rule " + number, what, "kept", holds ? "kept" : "broken");
    }

    private static String withoutComments(String text) {
        return text.replaceAll("(?s)/\\*.*?\\*/", "").replaceAll("//[^\n]*", "");
    }

    private static List<Class<?>> classes() {
        List<Class<?>> classes = new ArrayList<>(List.of(CarvedSolids.class.getDeclaredClasses()));
        classes.add(CarvedSolids.class);
        return classes;
    }

    private void namesApart() {
        Set<String> open = new TreeSet<>();
        for (Method m : CarvedSolids.class.getMethods()) {
            open.add(m.getName());
        }
        for (Class<?> type : classes()) {
            for (Method m : type.getDeclaredMethods()) {
                boolean ofTheFace = type == CarvedSolids.class && Modifier.isPublic(m.getModifiers());
                rule(1, m + " has a name of its own", ofTheFace || !open.contains(m.getName()));
            }
        }
    }

    private void imports(String code) {
        Matcher imported = Pattern.compile("(?m)^import\\s+([^;]+);").matcher(code);
        while (imported.find()) {
            rule(4, "import of " + imported.group(1), LIBRARY.contains(imported.group(1).trim()));
        }
        rule(4, "no library by its full name", !code.replaceAll("(?m)^import.*$", "").contains("java."));
    }

    private void ruledOut(String code) {
        for (String[] pair : RULED_OUT) {
            rule(Integer.parseInt(pair[0]), "no " + pair[1], !Pattern.compile(pair[1]).matcher(code).find());
        }
    }

    private void staticFields() {
        for (Class<?> type : classes()) {
            for (Field f : type.getDeclaredFields()) {
                if (Modifier.isStatic(f.getModifiers())) {
                    rule(5, f + " is a constant", Modifier.isFinal(f.getModifiers())
                            && CONSTANTS.contains(f.getType().getSimpleName()));
                }
            }
        }
    }

    private void throwsAreWritten(String code) {
        Matcher thrown = Pattern.compile("\\bthrow\\b([^;]*);").matcher(code);
        Pattern written = Pattern.compile("\\s+new\\s+(\\w+)\\((\"[^\"]*\")?\\)");
        while (thrown.find()) {
            Matcher form = written.matcher(thrown.group(1));
            rule(6, thrown.group(), form.matches() && EXCEPTIONS.contains(form.group(1)));
        }
    }

    private void sizes() {
        rule(11, "at most twelve classes", classes().size() <= 12);
        for (Class<?> type : classes()) {
            int fields = 0;
            for (Field f : type.getDeclaredFields()) {
                fields += Modifier.isStatic(f.getModifiers()) ? 0 : 1;
            }
            rule(11, type + " has at most twenty fields", fields <= 20);
            for (Method m : type.getDeclaredMethods()) {
                rule(11, m + " takes at most seven", m.getParameterCount() <= 7);
            }
        }
    }

    /** A method ends at the first line that closes at its own depth. */
    private void methodLengths(String text) {
        String[] lines = text.split("\n");
        Pattern head = Pattern.compile("^( {4}| {8})(?!class|if|for|while|switch|else)\\w[^;=]*\\(.*");
        int methods = 0;
        for (int i = 0; i < lines.length; i++) {
            Matcher begins = head.matcher(lines[i]);
            if (begins.matches() && (lines[i].endsWith("{") || lines[i + 1].trim().startsWith("throws"))) {
                int end = i;
                while (end < lines.length && !lines[end].equals(begins.group(1) + "}")) {
                    end++;
                }
                methods++;
                rule(11, lines[i].trim() + " stays short", end - i <= 60);
            }
        }
        rule(11, "methods were found", methods > 20);
    }
}
