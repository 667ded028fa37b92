import java.io.IOException;
import java.lang.reflect.Field;
import java.lang.reflect.Method;
import java.lang.reflect.Modifier;
import java.nio.file.Files;
import java.nio.file.Path;
import java.util.ArrayList;
import java.util.List;
import java.util.regex.Matcher;
import java.util.regex.Pattern;

/** Those rules of ../shared/LANGUAGE.md that can be seen in the class's text and members. */
public final class LanguageTest {
    private static final Check CHECK = new Check("language");
    private static final Path SOURCE = Path.of("src/main/java/DimensionChecker.java");

    private static final String NOT_CODE =
            "//[^\\n]*|/\\*.*?\\*/|\"(\\\\.|[^\"\\\\])*\"|'(\\\\.|[^'\\\\])*'";
    /** A word of the library behind which a member is named, with the sign that follows. */
    private static final Pattern LIBRARY_USE = Pattern.compile(
            "\\b((?:Integer|Long|Math|Arrays|System|List|Character|Double|String|Objects)"
            + "\\s*\\.\\s*\\w+\\s*\\(?)");
    private static final String LIBRARY = "(Integer|Long|Math)\\.(compare|max|min|abs|signum"
            + "|bitCount|floorDiv|floorMod)\\(|Arrays\\.(copyOf|copyOfRange|fill)\\("
            + "|System\\.arraycopy\\(|List\\.of\\(";
    private static final String IMPORTS = "java\\.util\\.(Arrays|ArrayList|List|Iterator)";
    private static final String[] FORBIDDEN = {"->", "::", "\\bfinally\\b", "\\bsynchronized\\b",
        "\\bassert\\b", "\\bgetMessage\\b", "\\bnative\\b", "\\bvolatile\\b", "\\btransient\\b",
        "\\bstatic\\s*\\{", "\\bpackage\\b", "\\bthrow\\s+(?!new\\b)"};
    private static final String MACHINE = "catch\\s*\\([^)]*\\b(ArrayIndexOutOfBoundsException"
            + "|NullPointerException|ClassCastException|NegativeArraySizeException"
            + "|ArrayStoreException|Exception|Throwable|Error)\\b";
    private static final String THROWN = "Illegal(State|Argument)Exception"
            + "|IndexOutOfBoundsException|ArithmeticException|UnsupportedOperationException"
            + "|NoSuchElementException|RuntimeException";

    private static final String BEGIN = " {4}( {4})?(?!(if|for|while|switch|return|throw|else)\\b)"
            + "(([\\w\\[\\]<>]+ )+\\w+|[A-Z]\\w*)\\([^;]*";
    private static final String END = " {4}( {4})?}";

    public static void main(String[] args) throws IOException {
        String text = Files.readString(SOURCE);
        String code = codeOf(text);
        CHECK.compare("signs beyond 127", true, text.chars().allMatch(sign -> sign < 128));
        CHECK.compare("rule 4, imports", List.of(),
                others(code, Pattern.compile("\\bimport\\s+([^;]+);"), IMPORTS));
        CHECK.compare("rule 4, the library", List.of(), others(code, LIBRARY_USE, LIBRARY));
        CHECK.compare("rule 6, what is thrown", List.of(),
                others(code, Pattern.compile("\\bthrow\\s+new\\s+(\\w+\\([^;]*);"),
                        "(" + THROWN + ")\\((\"\")?\\)"));
        for (String form : FORBIDDEN) {
            CHECK.compare("no " + form, List.of(), all(code, Pattern.compile("(" + form + ")")));
        }
        CHECK.compare("no catch of what the machine throws", List.of(),
                all(code, Pattern.compile("(" + MACHINE + ")")));
        membersOf(DimensionChecker.class);
        sizes(code);
        CHECK.end();
    }

    /** The text without comments, and with empty texts and signs. */
    private static String codeOf(String text) {
        return Pattern.compile(NOT_CODE, Pattern.DOTALL).matcher(text).replaceAll(found -> {
            char first = found.group().charAt(0);
            return first == '"' ? "\"\"" : first == '\'' ? "' '" : " ";
        });
    }

    private static List<String> all(String code, Pattern pattern) {
        List<String> found = new ArrayList<>();
        Matcher matcher = pattern.matcher(code);
        while (matcher.find()) {
            found.add(matcher.group(1).replaceAll("\\s+", ""));
        }
        return found;
    }

    private static List<String> others(String code, Pattern pattern, String allowed) {
        List<String> found = all(code, pattern);
        found.removeIf(use -> use.matches(allowed));
        return found;
    }

    private static void membersOf(Class<?> kind) {
        int fields = 0;
        for (Field field : kind.getDeclaredFields()) {
            boolean fixed = Modifier.isStatic(field.getModifiers());
            fields += fixed ? 0 : 1;
            CHECK.compare("rule 5, " + field + " is final", true,
                    !fixed || Modifier.isFinal(field.getModifiers()));
        }
        CHECK.compare("rule 11, fields of " + kind + " up to 20", true, fields <= 20);
        for (Method method : kind.getDeclaredMethods()) {
            CHECK.compare("rule 11, parameters of " + method + " up to 7", true,
                    method.getParameterCount() <= 7);
        }
        for (Class<?> inside : kind.getDeclaredClasses()) {
            membersOf(inside);
        }
    }

    private static void sizes(String code) {
        int classes = all(code, Pattern.compile("\\b(class|interface|enum|record)\\b")).size();
        CHECK.compare("rule 11, up to 12 classes", true, classes <= 12);
        int start = 0;
        int methods = 0;
        String[] lines = code.split("\n");
        for (int i = 0; i < lines.length; i++) {
            if (lines[i].matches(BEGIN)) {
                start = i;
                methods++;
            } else if (lines[i].matches(END)) {
                CHECK.compare("rule 11, lines of " + lines[start].strip() + " up to 60", true,
                        i - start <= 60);
            }
        }
        CHECK.compare("methods were found", true, methods > 27);
    }
}
