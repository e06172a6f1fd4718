import java.io.IOException;
import java.lang.reflect.Field;
import java.lang.reflect.Method;
import java.lang.reflect.Modifier;
import java.nio.file.Files;
import java.nio.file.Path;
import java.util.Set;
import java.util.TreeSet;
import java.util.regex.Matcher;
import java.util.regex.Pattern;

/** What of LANGUAGE.md can be seen from the source and the class. */
final class LanguageTest {
    private static final Set<String> FACE = Set.of(
        "feed", "end", "axis", "at", "grid", "put", "get", "cell", "code", "lane", "axes", "size", "cells", "view", "place", "turned", "spread",
        "shaped", "shares", "copy", "cast", "functions", "bind", "formula", "choose", "failed", "steps", "fold", "running", "sorted", "search",
        "groups", "join", "product", "solve", "residues", "table", "rows", "named", "columnLane", "column", "missing", "pick", "write", "bytes",
        "out", "read", "keep", "open", "logged", "poke", "crash", "reopen");

    private LanguageTest() {
    }

    public static void main(String[] args) throws IOException {
        String source = Files.readString(Path.of("src/main/java/GridEngine.java"));
        words(source);
        methods(source);
        members();
        Due.finish();
    }

    private static void words(String source) {
        String code = source.replaceAll("(?s)/\\*.*?\\*/", "").replaceAll("//[^\n]*", "").replaceAll("\"[^\"\n]*\"", "\"\"");
        String[] forbidden = {"\\bthrow\\b", "\\btry\\b", "\\bcatch\\b", "\\bsynchronized\\b", "\\bassert\\b", "->", "::", "\\bpackage\\b",
            "Exact\\(", "\\bdouble\\b", "\\bfloat\\b", "\\bDouble\\.", "\\bFloat\\.", "\\bhashCode\\b", "\\bstatic \\{", "\\bprotected\\b",
            "\\bString\\[", "\\bnew (?!int\\[|long\\[|byte\\[|boolean\\[|[A-Z])"};
        for (String word : forbidden) {
            Matcher m = Pattern.compile(word).matcher(code);
            Due.due("the source has " + word, m.find(), false);
        }
        Matcher imports = Pattern.compile("import ([^;]*);").matcher(code);
        while (imports.find()) {
            Due.due("import", imports.group(1), "java.util.Arrays");
        }
        int classes = code.split("\\bclass\\b").length - 1;
        Due.due("classes: " + classes, classes <= 13, true);
    }

    /** Lengths and parameters of methods; a method's head is indented and ends with an opening brace. */
    private static void methods(String source) {
        String[] lines = source.split("\n");
        Pattern head = Pattern.compile("^( {4}| {8})(?:[a-z]+ )*[A-Za-z\\[\\]]+ ?([A-Za-z]+)\\((.*)\\) \\{$");
        for (int n = 0; n < lines.length; n++) {
            Matcher m = head.matcher(lines[n]);
            if (!m.find() || lines[n].contains(" = ") || lines[n].trim().startsWith("if") || lines[n].trim().startsWith("for") || lines[n].trim().startsWith("while")) {
                continue;
            }
            int end = n;
            while (end < lines.length && !lines[end].equals(m.group(1) + "}")) {
                end++;
            }
            Due.due(m.group(2) + " has " + (end - n + 1) + " lines", end - n + 1 <= 62, true);
            int parameters = m.group(3).isEmpty() ? 0 : m.group(3).split(",").length;
            Due.due(m.group(2) + " has " + parameters + " parameters", parameters <= 7, true);
        }
    }

    private static void members() {
        Class<?> c = GridEngine.class;
        Due.due("public and final", Modifier.isPublic(c.getModifiers()) && Modifier.isFinal(c.getModifiers()), true);
        Due.due("constructors", c.getConstructors().length, 1);
        Due.due("constructors of all kinds", c.getDeclaredConstructors().length, 1);
        Set<String> open = new TreeSet<>();
        for (Method m : c.getDeclaredMethods()) {
            if (Modifier.isPrivate(m.getModifiers())) {
                Due.due("a private method bears a public one's name: " + m.getName(), FACE.contains(m.getName()), false);
            } else {
                open.add(m.getName());
                Due.due("public: " + m.getName(), Modifier.isPublic(m.getModifiers()) && !Modifier.isStatic(m.getModifiers()), true);
            }
        }
        Due.due("the face", open.equals(new TreeSet<>(FACE)), true);
        fields(c);
        for (Class<?> inner : c.getDeclaredClasses()) {
            Due.due("static: " + inner.getName(), Modifier.isStatic(inner.getModifiers()), true);
            fields(inner);
            for (Method m : inner.getDeclaredMethods()) {
                Due.due("an inner method bears a public one's name: " + m.getName(), FACE.contains(m.getName()), false);
            }
        }
    }

    private static void fields(Class<?> c) {
        int own = 0;
        for (Field f : c.getDeclaredFields()) {
            if (Modifier.isStatic(f.getModifiers())) {
                Due.due("final: " + f.getName(), Modifier.isFinal(f.getModifiers()), true);
            } else {
                own++;
            }
            if (c == GridEngine.class) {
                Due.due("private: " + f.getName(), Modifier.isPrivate(f.getModifiers()), true);
            }
        }
        Due.due(c.getName() + " has " + own + " fields", own <= 24, true);
    }
}
