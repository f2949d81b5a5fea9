import java.lang.reflect.Field;
import java.lang.reflect.Method;
import java.lang.reflect.Modifier;
import java.nio.file.Files;
import java.nio.file.Path;
import java.util.ArrayList;
import java.util.List;
import java.util.Set;
import java.util.TreeSet;
import java.util.regex.Matcher;
import java.util.regex.Pattern;

/** What of LANGUAGE.md can be seen in the file and in its classes, by the rules' numbers. */
public final class LanguageTest {
    private static final Set<String> EXCEPTIONS = Set.of("IllegalStateException", "IllegalArgumentException",
            "IndexOutOfBoundsException", "ArithmeticException", "UnsupportedOperationException",
            "NoSuchElementException", "RuntimeException");
    private static final Set<String> IMPORTS = Set.of("java.util.Arrays", "java.util.NoSuchElementException");
    private static final String[] WITHOUT = {"->", "::", "\\bfinally\\b", "\\bsynchronized\\b", "\\bassert\\b",
        "\\bstatic\\s*\\{", "Exact\\(", "getMessage", "\\bhashCode\\b", "\\bequals\\b", "\\btoString\\b", "\\bdouble\\b",
        "\\bfloat\\b", "\\bThread\\b", "\\bSystem\\.(?!arraycopy)", "\\bObject\\b", "@", "\\bvar\\b",
        "\\b(ArrayIndexOutOfBounds|NullPointer|ClassCast|NegativeArraySize|ArrayStore)Exception\\b",
        "\\b(Exception|Throwable|Error)\\b", "\\[\\]\\[\\]\\[\\]"};

    public static void main(String[] args) throws Exception {
        String file = Files.readString(Path.of("src/main/java/LongYears.java"));
        signs(file);
        String source = file.replaceAll("(?s)/\\*.*?\\*/", "").replaceAll("//[^\n]*", "")
                .replaceAll("\"[^\"\n]*\"", "\"\"");
        words(source);
        lengths(file);
        List<Class<?>> classes = classes(LongYears.class);
        Check.due("rule 11: some twelve classes", classes.size() <= 12, true);
        for (Class<?> some : classes) {
            members(some);
        }
        Check.end();
    }

    private static void signs(String file) {
        Check.sentence("one file without a package line; rule 4: constants' signs are 1 to 127");
        Check.due("a package line", file.contains("package "), false);
        Check.due("signs beyond 127", file.chars().anyMatch(sign -> sign < 1 || sign > 127), false);
    }

    private static void words(String source) {
        Check.sentence("rules 2 to 6 and 13: what must not stand in it");
        for (String word : WITHOUT) {
            Check.due(word, Pattern.compile(word).matcher(source).find(), false);
        }
        Check.sentence("rule 4: no library but what stands there");
        for (String some : found("import (?:static )?([\\w.*]+);", source)) {
            Check.due("import " + some, IMPORTS.contains(some), true);
        }
        Check.due("full names", Pattern.compile("(?<!import )\\bjavax?\\.").matcher(source).find(), false);
        Check.sentence("rule 6: throw new E, E one of these; a catch of these alone");
        int throwing = found("\\b(throw)\\b", source).size();
        Check.due("each throw makes a new one", found("\\bthrow new (\\w+)\\(\"\"\\);", source).size(), throwing);
        for (String some : found("\\bthrow new (\\w+)", source)) {
            Check.due("throw new " + some, EXCEPTIONS.contains(some), true);
        }
        for (String some : found("\\bcatch \\((\\w+)", source)) {
            Check.due("catch of " + some, EXCEPTIONS.contains(some) && !some.equals("RuntimeException"), true);
        }
    }

    private static List<String> found(String form, String source) {
        List<String> found = new ArrayList<>();
        Matcher matcher = Pattern.compile(form).matcher(source);
        while (matcher.find()) {
            found.add(matcher.group(1));
        }
        return found;
    }

    /** A method begins with a line that ends with ") {" or "throws .. {", and ends with a brace under its begin. */
    private static void lengths(String file) {
        Check.sentence("rule 11: methods stay short (some sixty lines)");
        String[] lines = file.split("\n");
        for (int i = 0; i < lines.length; i++) {
            if (!lines[i].matches("( {4}| {8})[a-zA-Z].*\\(.*\\).* \\{") || lines[i].matches(" *(if|for|while|switch).*")) {
                continue;
            }
            String end = lines[i].replaceAll("\\S.*", "") + "}";
            int last = i;
            while (!lines[last].equals(end)) {
                last++;
            }
            Check.due(lines[i].trim() + " of " + (last - i + 1) + " lines", last - i < 60, true);
        }
    }

    private static List<Class<?>> classes(Class<?> outer) {
        List<Class<?>> classes = new ArrayList<>();
        classes.add(outer);
        for (Class<?> inner : outer.getDeclaredClasses()) {
            Check.due("rule 1: " + inner + " is static", Modifier.isStatic(inner.getModifiers()), true);
            int shown = inner.getModifiers() & (Modifier.PUBLIC | Modifier.PROTECTED);
            Check.due("rule 1: " + inner + " is private or package-visible", shown, 0);
            classes.addAll(classes(inner));
        }
        return classes;
    }

    private static void members(Class<?> some) {
        Check.sentence("rules 1, 5 and 11 in " + some.getSimpleName());
        Set<String> face = new TreeSet<>();
        for (Method method : LongYears.class.getDeclaredMethods()) {
            if (Modifier.isPublic(method.getModifiers())) {
                face.add(method.getName());
            }
        }
        for (Method method : some.getDeclaredMethods()) {
            boolean hidden = Modifier.isPrivate(method.getModifiers());
            Check.due(method + " bears a public one's name", hidden && face.contains(method.getName()), false);
            Check.due(method + " takes seven at most", method.getParameterCount() <= 7, true);
        }
        int fields = 0;
        for (Field field : some.getDeclaredFields()) {
            boolean ofClass = Modifier.isStatic(field.getModifiers());
            fields += ofClass ? 0 : 1;
            Check.due(field + " is static and not final", ofClass && !Modifier.isFinal(field.getModifiers()), false);
        }
        Check.due("some twenty fields", fields <= 20, true);
    }
}
