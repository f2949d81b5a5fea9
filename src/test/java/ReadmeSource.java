import java.lang.reflect.Method;
import java.lang.reflect.Modifier;
import java.nio.file.Files;
import java.nio.file.Path;
import java.util.ArrayList;
import java.util.List;
import java.util.regex.Matcher;
import java.util.regex.Pattern;

/**
 * Writes a test out of README.md: each call of its examples is asked, and what stands behind it is the answer due.
 * The answer ends at a colon or at the end of the line; "throws E" is an exception.
 */
public final class ReadmeSource {
    private static final Pattern ASKED = Pattern.compile("(?s)(.*);\\s*// (throws ([\\w.]+)|[^:\\s]+)(:.*)?");

    public static void main(String[] args) throws Exception {
        List<String> helpers = new ArrayList<>();
        List<String> body = new ArrayList<>();
        for (String block : blocks(Files.readAllLines(Path.of(args[0])))) {
            if (block.startsWith("static ")) {
                helpers.add(block);
                continue;
            }
            for (String statement : statements(block)) {
                body.add(asked(statement));
            }
        }
        for (Method method : LongYears.class.getDeclaredMethods()) {
            String call = "years." + method.getName() + "(";
            boolean shown = body.stream().anyMatch(line -> line.startsWith("Check.due") && line.contains(call));
            if (Modifier.isPublic(method.getModifiers())) {
                body.add("Check.due(\"README asks " + method.getName() + "\", " + shown + ", true);");
            }
        }
        System.out.println("public final class ReadmeExamplesTest {");
        helpers.forEach(System.out::println);
        System.out.println("public static void main(String[] args) {");
        body.forEach(System.out::println);
        System.out.println("Check.end();\n}\n}");
    }

    private static List<String> blocks(List<String> lines) {
        List<String> blocks = new ArrayList<>();
        StringBuilder block = null;
        for (String line : lines) {
            if (line.equals("```java")) {
                block = new StringBuilder();
            } else if (line.equals("```") && block != null) {
                blocks.add(block.toString());
                block = null;
            } else if (block != null) {
                block.append(line).append('\n');
            }
        }
        return blocks;
    }

    /** A statement goes on over lines up to one that ends with ; or with ; and a comment. */
    private static List<String> statements(String block) {
        List<String> statements = new ArrayList<>();
        StringBuilder statement = new StringBuilder();
        for (String line : block.split("\n")) {
            statement.append(statement.length() == 0 ? "" : "\n").append(line);
            if (line.matches(".*;\\s*(//.*)?")) {
                statements.add(statement.toString());
                statement.setLength(0);
            }
        }
        return statements;
    }

    private static String asked(String statement) {
        Matcher matcher = ASKED.matcher(statement);
        if (!matcher.matches()) {
            return statement;
        }
        String call = matcher.group(1);
        String told = "\"README: " + call.replaceAll("\\s+", " ").replace("\"", "'") + "\"";
        if (matcher.group(3) == null) {
            return "Check.due(" + told + ", " + call + ", " + matcher.group(2) + ");";
        }
        return "{ boolean thrown = false; try { " + call + "; } catch (" + matcher.group(3) + " e) { thrown = true; } "
                + "Check.due(" + told + ", thrown, true); }";
    }
}
