import java.io.IOException;
import java.lang.reflect.Constructor;
import java.lang.reflect.Field;
import java.lang.reflect.Method;
import java.lang.reflect.Modifier;
import java.nio.charset.StandardCharsets;
import java.nio.file.Files;
import java.nio.file.Path;
import java.util.HashSet;
import java.util.Set;
import java.util.regex.Matcher;
import java.util.regex.Pattern;

/** Some of the rules of LANGUAGE.md that can be told from the file's text and from the class. */
public final class LanguageTest {
    private static final Due D = new Due("LanguageTest");

    public static void main(String[] args) throws IOException {
        String text = new String(Files.readAllBytes(Path.of("src/main/java/LastCloud.java")), StandardCharsets.ISO_8859_1);
        none(text, "[^\\n\\x20-\\x7e]", "a sign that is not plain");
        String code = text.replaceAll("(?s)/\\*.*?\\*/", " ").replaceAll("//[^\\n]*", " ");
        none(code, "\\b(throw|throws|try|catch|synchronized|assert|native|volatile|transient|protected|package)\\b", "6, 1");
        none(code, "->|::", "2, 6");
        none(code, "\\b(double|float|Object|System\\.(?!arraycopy)|Random|Thread|Exact)\\b", "3, 4, 13");
        none(code, "\\b\\w+Exact\\b", "4");
        none(code, "\"\\s*\\+|\\+\\s*\"", "10");
        none(code, "import (?!java\\.util\\.Arrays;)", "4");
        none(code, "\\bnew \\w+\\([^)]*\\) *\\{", "2");
        library(code);
        lengths(code);
        face();
        parameters();
        D.finish();
    }

    /** Rule 4: no other part of the library is named. */
    private static void library(String code) {
        Set<String> open = Set.of("Integer.bitCount", "Math.max", "Math.min", "System.arraycopy", "Arrays.fill");
        Matcher m = Pattern.compile("\\b(Integer|Long|Math|Arrays|System|String|Boolean|Character)\\.\\w+").matcher(code);
        while (m.find()) {
            D.due("rule 4: " + m.group(), open.contains(m.group()) ? 1 : 0, 1);
        }
    }

    /** Rule 11: methods of some sixty lines at most. */
    private static void lengths(String code) {
        Matcher m = Pattern.compile("(?m)^( +)(?:public|private) [^=;{}]*\\([^=;{}]*\\) \\{$").matcher(code);
        int methods = 0;
        while (m.find()) {
            methods++;
            int end = code.indexOf("\n" + m.group(1) + "}\n", m.start());
            long lines = code.substring(m.start(), Math.max(m.start(), end)).lines().count() + 1;
            D.due("rule 11: " + lines + " lines of " + m.group().trim(), end > 0 && lines <= 60 ? 1 : 0, 1);
        }
        D.due("methods were found: " + methods, methods > 150 ? 1 : 0, 1);
    }

    /** Rule 11: seven parameters at most. */
    private static void parameters() {
        for (Class<?> inner : LastCloud.class.getDeclaredClasses()) {
            for (Method m : inner.getDeclaredMethods()) {
                D.due("rule 11: parameters of " + m, m.getParameterCount() <= 7 ? 1 : 0, 1);
            }
        }
        for (Method m : LastCloud.class.getDeclaredMethods()) {
            D.due("rule 11: parameters of " + m, m.getParameterCount() <= 7 ? 1 : 0, 1);
        }
    }

    private static void none(String code, String pattern, String rule) {
        Matcher m = Pattern.compile(pattern).matcher(code);
        boolean found = m.find();
        D.due("rule " + rule + (found ? ": '" + m.group() + "'" : ""), found ? 1 : 0, 0);
    }

    private static void face() {
        Class<?> c = LastCloud.class;
        D.due("public and final", Modifier.isPublic(c.getModifiers()) && Modifier.isFinal(c.getModifiers()) ? 1 : 0, 1);
        Set<String> open = new HashSet<>();
        int methods = 0;
        for (Method m : c.getDeclaredMethods()) {
            if (Modifier.isPublic(m.getModifiers())) {
                methods++;
                open.add(m.getName());
            }
        }
        D.due("public methods", methods, 51);
        D.due("of unlike names", open.size(), 51);
        for (Method m : c.getDeclaredMethods()) {
            if (!Modifier.isPublic(m.getModifiers())) {
                D.due(m + " is private", Modifier.isPrivate(m.getModifiers()) ? 1 : 0, 1);
                D.due(m + " has its own name", open.contains(m.getName()) ? 1 : 0, 0);
            }
        }
        for (Field f : c.getDeclaredFields()) {
            boolean due = f.getName().equals("NONE") ? Modifier.isPublic(f.getModifiers())
                : Modifier.isPrivate(f.getModifiers());
            D.due(f + " is as it must be", due ? 1 : 0, 1);
        }
        for (Constructor<?> k : c.getDeclaredConstructors()) {
            D.due(k + " is public", Modifier.isPublic(k.getModifiers()) && k.getParameterCount() == 0 ? 1 : 0, 1);
        }
        int fields = 0;
        for (Class<?> inner : c.getDeclaredClasses()) {
            D.due(inner + " is static", Modifier.isStatic(inner.getModifiers()) ? 1 : 0, 1);
            D.due(inner + " is not open", Modifier.isPublic(inner.getModifiers()) ? 1 : 0, 0);
            for (Method m : inner.getDeclaredMethods()) {
                D.due(m + " is private", Modifier.isPrivate(m.getModifiers()) ? 1 : 0, 1);
                D.due(m + " has its own name", open.contains(m.getName()) ? 1 : 0, 0);
            }
            fields = Math.max(fields, membersOf(inner));
        }
        D.due("fields of a class", Math.max(fields, membersOf(c)) <= 20 ? 1 : 0, 1);
        D.due("classes", c.getDeclaredClasses().length + 1 <= 12 ? 1 : 0, 1);
    }

    private static int membersOf(Class<?> c) {
        int fields = 0;
        for (Field f : c.getDeclaredFields()) {
            if (Modifier.isStatic(f.getModifiers())) {
                D.due(f + " is final", Modifier.isFinal(f.getModifiers()) ? 1 : 0, 1);
            } else {
                fields++;
            }
        }
        return fields;
    }
}
