import java.io.IOException;
import java.lang.reflect.Method;
import java.nio.file.Files;
import java.nio.file.Path;
import java.util.List;
import java.util.regex.Matcher;
import java.util.regex.Pattern;

/**
 * Prints a class that runs the examples of README.md, each statement as it stands there. The comment behind a
 * statement names its answer, up to a colon: a value, or "throws" and the name of an exception.
 */
public final class ReadmeExample {

    private static final Pattern STATEMENT =
            Pattern.compile("(?:\\w+ (?<name>\\w+) = )?(?<call>[^;]+);(?:\\s*// (?<answer>[^:]+)(?::.*)?)?");
    private static final String TAIL = String.join("\n",
            "    private static void thrown(String call, Class<?> due, Runnable body) {",
            "        Class<?> got = null;",
            "        try {",
            "            body.run();",
            "        } catch (RuntimeException e) {",
            "            got = e.getClass();",
            "        }",
            "        Due.same(call, got, due);",
            "    }",
            "}",
            "");

    private final StringBuilder body = new StringBuilder();
    private int examples = 0;
    private int answers = 0;

    /** The arguments are the path of README.md and the name of the class to be printed. */
    public static void main(String[] args) throws IOException {
        ReadmeExample example = new ReadmeExample();
        example.read(Files.readAllLines(Path.of(args[0])));
        example.requireEachCall();
        System.out.print(example.asClass(args[1]));
    }

    private void read(List<String> lines) {
        boolean isJava = false;
        for (String line : lines) {
            if (line.equals("```java")) {
                isJava = true;
                examples++;
                body.append("    private static void example").append(examples).append("() {\n");
            } else if (isJava && line.equals("```")) {
                isJava = false;
                body.append("    }\n\n");
            } else if (isJava && !line.isBlank()) {
                add(line);
            }
        }
    }

    private void add(String line) {
        Matcher statement = STATEMENT.matcher(line);
        if (!statement.matches()) {
            throw new IllegalStateException("README.md has a line of another form: " + line);
        }
        String answer = statement.group("answer");
        String name = statement.group("name");
        String call = statement.group("call");
        if (answer == null) {
            body.append("        ").append(line).append('\n');
            return;
        }
        answers++;
        if (answer.startsWith("throws ")) {
            body.append("        thrown(\"").append(call).append("\", ")
                    .append(answer.substring("throws ".length())).append(".class, () -> { ").append(call).append("; });\n");
            return;
        }
        if (name != null) {
            body.append("        ").append(line).append('\n');
        }
        body.append("        Due.same(\"").append(call).append("\", ").append(name != null ? name : call).append(", ")
                .append(answer.replaceAll("^(NONE|RESERVED)$", "Buddyfield.$1")).append(");\n");
    }

    private void requireEachCall() {
        for (Method method : Buddyfield.class.getDeclaredMethods()) {
            boolean isPublic = java.lang.reflect.Modifier.isPublic(method.getModifiers());
            if (isPublic && body.indexOf("volume." + method.getName() + "(") < 0) {
                throw new IllegalStateException("README.md has no example with " + method.getName());
            }
        }
    }

    private String asClass(String name) {
        StringBuilder text = new StringBuilder("public final class " + name + " {\n\n");
        text.append("    public static void main(String[] args) {\n");
        for (int example = 1; example <= examples; example++) {
            text.append("        example").append(example).append("();\n");
        }
        text.append("        Due.same(\"answers that were asked\", Due.checks(), ").append(answers).append(");\n")
                .append("        Due.end(\"README.md, ").append(examples).append(" examples\");\n    }\n\n");
        return text.append(body).append(TAIL).toString();
    }
}
