import java.io.IOException;
import java.lang.reflect.Field;
import java.lang.reflect.Method;
import java.lang.reflect.Modifier;
import java.nio.file.Files;
import java.nio.file.Path;
import java.util.ArrayList;
import java.util.List;
import java.util.Set;
import java.util.TreeSet;
import java.util.regex.Matcher;
import java.util.regex.Pattern;

/** Those rules of LANGUAGE.md that can be seen in the file or in the compiled class. */
public final class LanguageTest {
    private static final Path PROGRAM = Path.of("src/main/java/TwoTimesTable.java");
    private static final int MOST_PARAMETERS = 7;
    private static final int MOST_LINES = 60;
    private static final int MOST_CLASSES = 12;
    private static final int MOST_FIELDS = 20;
    private static final Set<String> THROWN = Set.of("IllegalStateException", "IllegalArgumentException",
        "IndexOutOfBoundsException", "ArithmeticException", "UnsupportedOperationException",
        "NoSuchElementException", "RuntimeException");
    private static final Set<String> LIBRARY = Set.of("Integer.bitCount", "System.arraycopy");
    private static final String[] RULED_OUT = {"->", "::", "\\bfinally\\b", "\\bsynchronized\\b", "\\bassert\\b",
        "\\bpackage\\b", "\\bnative\\b", "\\bvar\\b", "@", "\\bstatic\\s*\\{", "\\bprotected\\b"};

    private static final Pattern METHOD_HEAD = Pattern.compile("^( +)(?:public|private) [^;=]*\\(");

    private static final Due due = new Due();

    public static void main(String[] args) throws IOException {
        String code = withoutCommentsAndTexts(Files.readString(PROGRAM));
        List<Class<?>> classes = classesOf(TwoTimesTable.class);
        rule1NoPrivateMethodWithAPublicName(classes);
        rule2ClassesInsideAreStaticAndPrivate(classes);
        rule4NoOtherLibrary(code);
        rule5StaticFieldsAreConstants(classes);
        rule6Exceptions(code);
        rule11Sizes(code, classes);
        for (String form : RULED_OUT) {
            due.is("the file has " + form, false, Pattern.compile(form).matcher(code).find());
        }
        due.end("LanguageTest");
    }

    private static String withoutCommentsAndTexts(String file) {
        return file.replaceAll("\"[^\"\n]*\"", "\"\"").replaceAll("(?s)/\\*.*?\\*/", "").replaceAll("//[^\n]*", "");
    }

    private static List<Class<?>> classesOf(Class<?> outer) {
        List<Class<?>> classes = new ArrayList<>(List.of(outer));
        for (Class<?> inside : outer.getDeclaredClasses()) {
            classes.addAll(classesOf(inside));
        }
        return classes;
    }

    private static void rule1NoPrivateMethodWithAPublicName(List<Class<?>> classes) {
        Set<String> face = new TreeSet<>();
        for (Method method : TwoTimesTable.class.getDeclaredMethods()) {
            if (Modifier.isPublic(method.getModifiers())) {
                due.is("one method " + method.getName(), true, face.add(method.getName()));
            }
        }
        for (Class<?> each : classes) {
            for (Method method : each.getDeclaredMethods()) {
                boolean clashes = !Modifier.isPublic(method.getModifiers()) && face.contains(method.getName());
                due.is("rule 1: another " + method.getName(), false, clashes);
            }
        }
    }

    private static void rule2ClassesInsideAreStaticAndPrivate(List<Class<?>> classes) {
        for (Class<?> inside : classes.subList(1, classes.size())) {
            due.is("rule 2: " + inside + " is static", true, Modifier.isStatic(inside.getModifiers()));
            due.is("rule 1: " + inside + " is private", true, Modifier.isPrivate(inside.getModifiers()));
        }
    }

    private static void rule4NoOtherLibrary(String code) {
        Matcher imports = Pattern.compile("\\bimport\\s+([^;]*);").matcher(code);
        while (imports.find()) {
            due.is("rule 4: import of " + imports.group(1), true,
                imports.group(1).equals("java.util.NoSuchElementException"));
        }
        Matcher uses = Pattern.compile("\\b([A-Z]\\w*[a-z]\\w*\\.\\w+)\\(").matcher(code);
        while (uses.find()) {
            boolean own = uses.group(1).startsWith("History.") || uses.group(1).startsWith("Statement.");
            due.is("rule 4: use of " + uses.group(1), true, own || LIBRARY.contains(uses.group(1)));
        }
    }

    private static void rule5StaticFieldsAreConstants(List<Class<?>> classes) {
        for (Class<?> each : classes) {
            for (Field field : each.getDeclaredFields()) {
                if (Modifier.isStatic(field.getModifiers())) {
                    due.is("rule 5: " + field + " is a final int", true,
                        Modifier.isFinal(field.getModifiers()) && field.getType() == int.class);
                }
            }
        }
    }

    private static void rule6Exceptions(String code) {
        due.is("rule 6: try stands in the file", false, Pattern.compile("\\btry\\b").matcher(code).find());
        int thrown = 0;
        Matcher thrownNew = Pattern.compile("\\bthrow\\s+new\\s+(\\w+)\\((\"\")?\\);").matcher(code);
        while (thrownNew.find()) {
            thrown++;
            due.is("rule 6: throw of " + thrownNew.group(1), true, THROWN.contains(thrownNew.group(1)));
        }
        due.is("rule 6: each throw is one of a new exception with a written text", thrown,
            Pattern.compile("\\bthrow\\b").matcher(code).results().count());
    }

    private static void rule11Sizes(String code, List<Class<?>> classes) {
        due.is("rule 11: at most " + MOST_CLASSES + " classes", true, classes.size() <= MOST_CLASSES);
        for (Class<?> each : classes) {
            int fields = 0;
            for (Field field : each.getDeclaredFields()) {
                fields += Modifier.isStatic(field.getModifiers()) ? 0 : 1;
            }
            due.is("rule 11: fields of " + each, true, fields <= MOST_FIELDS);
            for (Method method : each.getDeclaredMethods()) {
                due.is("rule 11: parameters of " + method, true, method.getParameterCount() <= MOST_PARAMETERS);
            }
        }
        linesOfMethods(code, classes);
    }

    /** A method ends on the first line that closes at the depth of its head, as the file is laid out. */
    private static void linesOfMethods(String code, List<Class<?>> classes) {
        List<String> lines = code.lines().toList();
        int found = 0;
        for (int head = 0; head < lines.size(); head++) {
            Matcher method = METHOD_HEAD.matcher(lines.get(head));
            if (method.find()) {
                found++;
                int length = lines.subList(head, lines.size()).indexOf(method.group(1) + "}") + 1;
                due.is("rule 11: the lines of" + lines.get(head), true, length > 0 && length <= MOST_LINES);
            }
        }
        int compiled = 1;
        for (Class<?> each : classes) {
            compiled += each.getDeclaredMethods().length;
        }
        due.is("heads found in the file, of all methods and the one constructor", compiled, found);
    }
}
