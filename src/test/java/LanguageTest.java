import java.io.IOException;
import java.lang.reflect.Field;
import java.lang.reflect.Method;
import java.lang.reflect.Modifier;
import java.nio.file.Files;
import java.nio.file.Path;
import java.util.ArrayList;
import java.util.List;
import java.util.Set;
import java.util.regex.Matcher;
import java.util.regex.Pattern;

/** The rules of ../shared/LANGUAGE.md that can be seen from the text of the class or from its members. */
public final class LanguageTest {
    private static final Path SOURCE = Path.of("src/main/java/TimeNet.java");
    private static final String[] RULED_OUT = {
        "\\bimport\\b", "\\bpackage\\b", "\\bassert\\b", "\\bsynchronized\\b", "\\bfinally\\b", "\\bvolatile\\b",
        "\\bnative\\b", "->", "::", "Exact\\b", "\\bSystem\\.(?!arraycopy)", "\\bThread\\b", "\\bRandom\\b",
        "\\bgetMessage\\b", "\\bhashCode\\b", "\\bvar\\b", "\\bpublic\\s+(class|enum|record|interface)\\b",
    };
    private static final Set<String> THROWN = Set.of("IllegalStateException", "IllegalArgumentException",
        "IndexOutOfBoundsException", "ArithmeticException", "UnsupportedOperationException", "NoSuchElementException",
        "RuntimeException");
    private static final int MOST_LINES = 60;
    private static final int MOST_PARAMETERS = 7;
    private static final int MOST_CLASSES = 12;
    private static final int MOST_FIELDS = 20;

    private final Check check = new Check("LanguageTest");
    private final String text;
    private final String code;

    private LanguageTest() throws IOException {
        text = Files.readString(SOURCE);
        code = withoutCommentsAndTexts(text);
    }

    private static String withoutCommentsAndTexts(String source) {
        return source.replaceAll("(?s)/\\*.*?\\*/", "").replaceAll("\"[^\"\\n]*\"", "\"\"").replaceAll("//[^\\n]*", "");
    }

    private void plainSigns() {
        check.due("3: other signs", text.chars().filter(sign -> sign != '\n' && (sign < 32 || sign > 126)).count(), 0);
    }

    private void nothingRuledOut() {
        for (String pattern : RULED_OUT) {
            check.due("ruled out: " + pattern, Pattern.compile(pattern).matcher(code).find(), false);
        }
    }

    /** No catch stands in the class, so none can answer for the machine. */
    private void nothingIsCaught() {
        check.due("6: try or catch", Pattern.compile("\\b(try|catch)\\b").matcher(code).find(), false);
    }

    private void whatIsThrown() {
        Matcher thrown = Pattern.compile("\\bthrow\\b\\s*(new\\s+(\\w+)\\(\"[^\"\\n]*\"\\);)?").matcher(code);
        while (thrown.find()) {
            String kind = thrown.group(2);
            check.due("6: " + thrown.group(), kind != null && THROWN.contains(kind), true);
        }
    }

    private void lengthsOfMethods() {
        int begun = 0;
        String head = "";
        String[] lines = text.split("\n");
        for (int line = 0; line < lines.length; line++) {
            String row = lines[line];
            if (row.matches("( {4}| {8})(public|private) .*\\(.*") && !row.contains(";")) {
                begun = line;
                head = row.trim();
            } else if (row.matches("( {4}| {8})\\}") && !head.isEmpty()) {
                check.due("11: " + head + " is short", line - begun < MOST_LINES, true);
                head = "";
            }
        }
    }

    private static List<Class<?>> classes() {
        List<Class<?>> all = new ArrayList<>(List.of(TimeNet.class));
        all.addAll(List.of(TimeNet.class.getDeclaredClasses()));
        return all;
    }

    private void classesInside() {
        List<Class<?>> all = classes();
        check.due("11: how many classes", all.size() <= MOST_CLASSES, true);
        for (Class<?> inside : all.subList(1, all.size())) {
            int modifiers = inside.getModifiers();
            check.due("2: " + inside + " is static", Modifier.isStatic(modifiers), true);
            check.due("1: " + inside + " is hidden",
                Modifier.isPublic(modifiers) || Modifier.isProtected(modifiers), false);
        }
    }

    private void fieldsOf(Class<?> holder) {
        int changing = 0;
        for (Field field : holder.getDeclaredFields()) {
            if (Modifier.isStatic(field.getModifiers())) {
                check.due("5: " + field + " is final", Modifier.isFinal(field.getModifiers()), true);
            } else {
                changing++;
            }
        }
        check.due("11: how many fields " + holder + " has", changing <= MOST_FIELDS, true);
    }

    private void parametersOf(Class<?> holder) {
        for (Method method : holder.getDeclaredMethods()) {
            check.due("11: parameters of " + method, method.getParameterCount() <= MOST_PARAMETERS, true);
        }
    }

    public static void main(String[] args) throws IOException {
        LanguageTest test = new LanguageTest();
        test.plainSigns();
        test.nothingRuledOut();
        test.nothingIsCaught();
        test.whatIsThrown();
        test.lengthsOfMethods();
        test.classesInside();
        for (Class<?> holder : classes()) {
            test.fieldsOf(holder);
            test.parametersOf(holder);
        }
        test.check.end();
    }
}
