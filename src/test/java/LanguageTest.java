import java.io.IOException;
import java.lang.reflect.Constructor;
import java.lang.reflect.Field;
import java.lang.reflect.Method;
import java.lang.reflect.Modifier;
import java.nio.charset.StandardCharsets;
import java.nio.file.Files;
import java.nio.file.Path;
import java.util.ArrayList;
import java.util.List;
import java.util.Set;
import java.util.regex.Matcher;
import java.util.regex.Pattern;

/** What a program can see of ../shared/LANGUAGE.md's rules in the class and its text (rule 1 is FaceTest's). */
public final class LanguageTest {
    private static final Check C = new Check("LanguageTest");
    private static final Set<String> CONSTANTS = Set.of("int", "long", "boolean", "char", "String", "int[]", "long[]", "char[]", "byte[]");
    private static final Set<String> OF_ENUMS = Set.of("int", "long", "boolean", "String");
    private static final Pattern HEAD = Pattern.compile("( {4}| {8})[A-Za-z][\\w ]*\\([^)]*\\) (throws \\w+ )?\\{");

    public static void main(String[] args) throws IOException {
        List<Class<?>> classes = new ArrayList<>(List.of(SixteenDesk.class.getDeclaredClasses()));
        classes.add(SixteenDesk.class);
        C.due("rule 11: classes up to twelve, they are " + classes.size(), classes.size() <= 12, true);
        for (Class<?> one : classes) {
            fields(one);
            parameters(one);
        }
        String text = Files.readString(Path.of("src/main/java/SixteenDesk.java"), StandardCharsets.UTF_8);
        lengths(text.split("\n"));
        words(withoutTextsAndComments(text));
        C.finish();
    }

    private static void fields(Class<?> one) {
        int own = 0;
        for (Field f : one.getDeclaredFields()) {
            String type = f.getType().getSimpleName();
            if (f.isEnumConstant() || f.isSynthetic()) {
                continue;
            }
            if (Modifier.isStatic(f.getModifiers())) {
                C.due("rule 5: final, " + f, Modifier.isFinal(f.getModifiers()), true);
                boolean values = one.isEnum() && f.getType().isArray() && f.getType().getComponentType() == one;
                C.due("rule 5: a constant's type, " + f, values || CONSTANTS.contains(type), true);
            } else {
                own++;
                C.due("rule 2: a type of an enum's fields, " + f, !one.isEnum() || OF_ENUMS.contains(type), true);
            }
        }
        C.due("rule 11: fields of " + one + " up to twenty, they are " + own, own <= 20, true);
    }

    private static void parameters(Class<?> one) {
        for (Method m : one.getDeclaredMethods()) {
            C.due("rule 11: parameters of " + m, m.getParameterCount() <= 7, true);
        }
        for (Constructor<?> c : one.getDeclaredConstructors()) {
            C.due("rule 11: parameters of " + c, c.getParameterCount() <= 7, true);
        }
    }

    /** A method ends with the brace that stands where its head begins. */
    private static void lengths(String[] lines) {
        int methods = 0;
        for (int i = 0; i < lines.length; i++) {
            Matcher head = HEAD.matcher(lines[i]);
            if (head.matches()) {
                methods++;
                int last = i;
                while (last < lines.length && !lines[last].equals(head.group(1) + "}")) {
                    last++;
                }
                C.due("rule 11: lines of " + lines[i].trim() + " up to sixty, they are " + (last - i + 1), last - i + 1 <= 60, true);
            }
        }
        C.due("methods were found", methods > 80, true);
    }

    private static String withoutTextsAndComments(String text) {
        return text.replaceAll("(?s)/\\*.*?\\*/", "").replaceAll("'(\\\\.|[^'])'", "' '").replaceAll("\"(\\\\.|[^\"\\\\])*\"", "\"\"")
            .replaceAll("//.*", "");
    }

    private static void none(String rule, String code, String pattern) {
        Matcher found = Pattern.compile(pattern).matcher(code);
        C.due(rule + ": " + pattern, found.find() ? found.group() : "nothing", "nothing");
    }

    private static void words(String code) {
        none("the program", code, "\\bpackage\\b");
        none("rule 4", code, "\\bimport (?!java\\.util\\.NoSuchElementException;).*");
        none("rule 2", code, "->|::");
        none("rule 4", code, "\\w+Exact\\b");
        none("rule 5", code, "\\bstatic \\{");
        none("rule 6", code, "\\b(finally|synchronized|assert|try|catch|volatile|native)\\b");
        none("rule 6", code, "\\bthrow (?!new (NoSuchElementException|IllegalArgumentException)\\(\"\"\\);).*");
        none("rule 6", code, "\\b(equals|hashCode|toString|getMessage|getClass)\\b");
        none("rule 10", code, "\"\" ?\\+|\\+ ?\"\"");
        none("rule 13", code, "\\b(System|Thread|Runtime|Random|Math\\.random|java\\.(io|nio|net|time))\\b");
    }
}
