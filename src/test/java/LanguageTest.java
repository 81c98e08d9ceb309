import java.io.IOException;
import java.lang.reflect.Constructor;
import java.lang.reflect.Field;
import java.lang.reflect.Method;
import java.lang.reflect.Modifier;
import java.nio.charset.StandardCharsets;
import java.nio.file.Files;
import java.nio.file.Path;
import java.util.Arrays;
import java.util.List;
import java.util.regex.Matcher;
import java.util.regex.Pattern;

/** The rules of LANGUAGE.md that can be read off the class's text, or asked of the compiled class. */
public final class LanguageTest {

    private static final int MOST_CLASSES = 12;
    private static final int MOST_FIELDS = 20;
    private static final int MOST_PARAMETERS = 7;
    private static final int MOST_LINES = 60;
    private static final List<String> IMPORTS = Arrays.asList("java.util.ArrayList", "java.util.List",
            "java.util.Arrays", "java.util.Iterator", "java.util.NoSuchElementException");
    private static final List<String> EXCEPTIONS = Arrays.asList("IllegalStateException",
            "IllegalArgumentException", "IndexOutOfBoundsException", "ArithmeticException",
            "UnsupportedOperationException", "NoSuchElementException", "RuntimeException");
    private static final List<String> MATH = Arrays.asList("compare", "max", "min", "abs", "bitCount",
            "floorDiv", "floorMod");
    private static final List<String> ARRAYS = Arrays.asList("copyOf", "copyOfRange", "fill");

    public static void main(String[] args) throws IOException {
        String text = Files.readString(Path.of(args[0]), StandardCharsets.UTF_8);
        signs(text);
        String code = withoutCommentsAndTexts(text);
        words(code);
        library(code);
        exceptions(code);
        lengths(code);
        shape(Buddyfield.class);
        Due.same("classes", Buddyfield.class.getDeclaredClasses().length < MOST_CLASSES, true);
        for (Class<?> inside : Buddyfield.class.getDeclaredClasses()) {
            Due.same(inside + " is static", Modifier.isStatic(inside.getModifiers()), true);
            Due.same(inside + " is not public", Modifier.isPublic(inside.getModifiers()), false);
            shape(inside);
        }
        Due.end("the language");
    }

    /** Rule 4: signs 1 to 127. */
    private static void signs(String text) {
        int others = 0;
        for (int i = 0; i < text.length(); i++) {
            others += text.charAt(i) < 1 || text.charAt(i) > 127 ? 1 : 0;
        }
        Due.same("signs above 127", others, 0);
    }

    private static String withoutCommentsAndTexts(String text) {
        return text.replaceAll("(?s)/\\*.*?\\*/", "").replaceAll("//[^\n]*", "")
                .replaceAll("\"(\\\\.|[^\"\\\\])*\"", "\"\"");
    }

    /** Rules 1, 2, 5, 6, 9 and 10: what has no place in the text at all. */
    private static void words(String code) {
        String[] none = {"\\bpackage\\b", "->", "::", "\\bsynchronized\\b", "\\bassert\\b", "\\bfinally\\b",
            "\\btry\\s*\\(", "\\bstatic\\s*\\{", "\\bvolatile\\b", "\\bnative\\b", "\\bprotected\\b", "\\bvar\\b",
            "\\bgetMessage\\b", "\\bequals\\s*\\(", "\\bhashCode\\b", "\\btoString\\b", "\\bgetClass\\b",
            "while\\s*\\(\\s*true\\s*\\)", "for\\s*\\(\\s*;\\s*;", "\"\"\\s*\\+", "\\+\\s*\"\"", "Exact\\b",
            "\\bextends\\s+\\w*Exception\\b", "\\bThread\\b", "\\bRandom\\b", "\\bSystem\\.(?!arraycopy\\b)",
            "\\bClass\\b", "@SuppressWarnings"};
        for (String each : none) {
            Matcher matcher = Pattern.compile(each).matcher(code);
            Due.same("no " + each, matcher.find() ? matcher.group() : "", "");
        }
    }

    /** Rule 4: what is imported, and which functions of Math and Arrays are called. */
    private static void library(String code) {
        for (String each : all("(?m)^import\\s+([\\w.]+);", code)) {
            Due.same("import " + each, IMPORTS.contains(each), true);
        }
        for (String each : all("\\b(?:Math|Integer|Long)\\.(\\w+)", code)) {
            Due.same("Math." + each, MATH.contains(each), true);
        }
        for (String each : all("\\bArrays\\.(\\w+)", code)) {
            Due.same("Arrays." + each, ARRAYS.contains(each), true);
        }
    }

    /** Rule 6: each throw makes one of the named exceptions; a catch names one, too. */
    private static void exceptions(String code) {
        List<String> thrown = all("\\bthrow\\s+new\\s+(\\w+)\\((?:\"\")?\\);", code);
        Due.same("throw statements of the one form", all("\\bthrow\\b()", code).size(), thrown.size());
        for (String each : thrown) {
            Due.same("throw new " + each, EXCEPTIONS.contains(each), true);
        }
        for (String each : all("\\bcatch\\s*\\(\\s*(\\w+)", code)) {
            Due.same("catch " + each, EXCEPTIONS.contains(each), true);
        }
    }

    private static List<String> all(String pattern, String code) {
        return Pattern.compile(pattern).matcher(code).results().map(found -> found.group(1)).toList();
    }

    /** Rule 11: a block that is neither the class nor one inside it stays within so many lines. */
    private static void lengths(String code) {
        String[] lines = code.split("\n");
        int[] opened = new int[64];
        int depth = 0;
        for (int line = 0; line < lines.length; line++) {
            for (char sign : lines[line].toCharArray()) {
                if (sign == '{') {
                    opened[depth++] = line;
                } else if (sign == '}') {
                    int begin = opened[--depth];
                    boolean isClass = lines[begin].matches(".*\\b(class|enum|interface|record)\\b.*");
                    Due.same("length of: " + lines[begin].trim(), isClass || line - begin < MOST_LINES, true);
                }
            }
        }
        Due.same("braces", depth, 0);
    }

    /** Rules 1, 3, 5 and 11 of one class: its fields, methods and constructors. */
    private static void shape(Class<?> owner) {
        int fields = 0;
        for (Field field : owner.getDeclaredFields()) {
            boolean isStatic = Modifier.isStatic(field.getModifiers());
            Due.same(field + " is final if static", !isStatic || Modifier.isFinal(field.getModifiers()), true);
            Due.same(field + " has a type of the language", isOfTheLanguage(field.getType()), true);
            fields += isStatic ? 0 : 1;
        }
        Due.same(owner + ": fields", fields <= MOST_FIELDS, true);
        for (Method method : owner.getDeclaredMethods()) {
            Due.same(method + ": parameters", method.getParameterCount() <= MOST_PARAMETERS, true);
        }
        for (Constructor<?> constructor : owner.getDeclaredConstructors()) {
            Due.same(constructor + ": parameters", constructor.getParameterCount() <= MOST_PARAMETERS, true);
        }
    }

    private static boolean isOfTheLanguage(Class<?> type) {
        Class<?> part = type.isArray() ? type.getComponentType() : type;
        Class<?> inner = part.isArray() ? part.getComponentType() : part;
        if (part.isArray()) {
            return inner.isPrimitive();
        }
        return part.isPrimitive() || part == String.class || part == StringBuilder.class || part == Integer.class
                || part == List.class || part == java.util.ArrayList.class
                || part.getName().startsWith("Buddyfield");
    }
}
