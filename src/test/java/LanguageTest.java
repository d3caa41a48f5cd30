import java.io.IOException;
import java.lang.reflect.Constructor;
import java.lang.reflect.Field;
import java.lang.reflect.Method;
import java.lang.reflect.Modifier;
import java.nio.file.Files;
import java.nio.file.Path;
import java.util.ArrayList;
import java.util.List;
import java.util.Map;
import java.util.Set;
import java.util.TreeMap;
import java.util.TreeSet;
import java.util.regex.Matcher;
import java.util.regex.Pattern;

/** The rules of LANGUAGE.md that can be counted, or seen in the text; the others are for the reader. */
public final class LanguageTest {
    private static final Path SOURCE = Path.of("src/main/java/CouncilStore.java");
    private static final String[] NEVER = {
        "package", "finally", "synchronized", "assert", "catch", "try", "protected", "abstract", "native", "volatile", "double",
        "float", "Object", "Iterator", "Thread", "Random", "File", "Scanner", "hashCode", "getMessage", "Exact",
    };

    public static void main(String[] args) throws IOException {
        String code = withoutTextsAndComments(Files.readString(SOURCE));
        imports(code);
        words(code);
        Map<String, List<String>> methods = methods(code);
        lengths(methods);
        depths(methods);
        sizes();
        namesOfTheFace();
        Due.exit();
    }

    private static String withoutTextsAndComments(String text) {
        return text.replaceAll("\"[^\"\n]*\"", "\"\"").replaceAll("(?s)/\\*.*?\\*/", "").replaceAll("//[^\n]*", "");
    }

    private static void imports(String code) {
        Due.part("rule 4: only what stands here");
        Set<String> found = new TreeSet<>();
        Matcher line = Pattern.compile("import ([\\w.*]+);").matcher(code);
        while (line.find()) {
            found.add(line.group(1));
        }
        Due.dueSame("imports", found.toString(), "[java.util.ArrayList, java.util.Arrays, java.util.NoSuchElementException]");
        Due.due("names with java. in them, beside imports", count(code, "java\\."), 3);
        Due.due("System, but for arraycopy", count(code, "\\bSystem\\b(?!\\.arraycopy)"), 0);
        Due.due("Math, but over int", count(code, "\\bMath\\.(?!min|max)"), 0);
    }

    private static void words(String code) {
        Due.part("rules 2, 3 and 6");
        for (String word : NEVER) {
            Due.due(word, count(code, "\\b" + word + "\\b"), 0);
        }
        Due.due("lambdas", count(code, "->"), 0);
        Due.due("method references", count(code, "::"), 0);
        Due.due("texts that are joined", count(code, "\"\\s*\\+|\\+\\s*\""), 0);
        Due.due("throws of what isn't listed", count(code, "throw (?!new (IllegalArgumentException|IllegalStateException"
                + "|IndexOutOfBoundsException|NoSuchElementException)\\(\"\"\\);)"), 0);
    }

    private static int count(String code, String pattern) {
        int found = 0;
        Matcher at = Pattern.compile(pattern).matcher(code);
        while (at.find()) {
            found++;
        }
        return found;
    }

    /** By name, each with its lines; it ends with a brace as deep as it began. Those of one name are one. */
    private static Map<String, List<String>> methods(String code) {
        Map<String, List<String>> found = new TreeMap<>();
        String[] lines = code.split("\n");
        Pattern head = Pattern.compile("^( {4}| {8})(?!if|for|while|switch)(?:[\\w<>\\[\\]]+ )*(\\w+)\\([^=;]*\\)( throws [\\w, ]+)? \\{$");
        for (int i = 0; i < lines.length; i++) {
            Matcher at = head.matcher(lines[i]);
            if (at.find()) {
                List<String> body = found.computeIfAbsent(at.group(2), name -> new ArrayList<>());
                int end = i + 1;
                while (end < lines.length && !lines[end].equals(at.group(1) + "}")) {
                    body.add(lines[end]);
                    end++;
                }
            }
        }
        return found;
    }

    private static void lengths(Map<String, List<String>> methods) {
        Due.part("rule 11: some sixty lines");
        Due.due("methods were found", methods.size() > 100 ? 1 : 0, 1);
        for (Map.Entry<String, List<String>> m : methods.entrySet()) {
            Due.due("lines of " + m.getKey(), Math.max(60, m.getValue().size()), 60);
        }
    }

    /** The library's are counted as one more, and none of ours calls itself. */
    private static void depths(Map<String, List<String>> methods) {
        Due.part("rule 11: calls go at most eight deep");
        for (String name : methods.keySet()) {
            Due.due("depth of " + name, Math.max(8, depth(methods, name, 1)), 8);
        }
    }

    private static int depth(Map<String, List<String>> methods, String name, int above) {
        int deepest = 1;
        if (above > 20) {
            return deepest;
        }
        Matcher call = Pattern.compile("(\\w+)\\(").matcher(String.join("\n", methods.get(name)));
        while (call.find()) {
            boolean ours = methods.containsKey(call.group(1));
            deepest = Math.max(deepest, 1 + (ours ? depth(methods, call.group(1), above + 1) : isWord(call.group(1)) ? 0 : 1));
        }
        return deepest;
    }

    private static boolean isWord(String name) {
        return List.of("if", "for", "while", "switch").contains(name);
    }

    private static List<Class<?>> classes() {
        List<Class<?>> all = new ArrayList<>(List.of(CouncilStore.class));
        all.addAll(List.of(CouncilStore.class.getDeclaredClasses()));
        return all;
    }

    private static void sizes() {
        Due.part("rule 11: seven parameters, twelve classes, twenty fields");
        Due.due("classes over twelve", Math.max(12, classes().size()), 12);
        for (Class<?> c : classes()) {
            int fields = 0;
            for (Field f : c.getDeclaredFields()) {
                fields += Modifier.isStatic(f.getModifiers()) || f.isSynthetic() ? 0 : 1;
            }
            Due.due("fields of " + c.getName(), Math.max(20, fields), 20);
            for (Method m : c.getDeclaredMethods()) {
                Due.due("parameters of " + m.getName(), Math.max(7, m.getParameterCount()), 7);
            }
            for (Constructor<?> made : c.getDeclaredConstructors()) {
                Due.due("parameters to make " + c.getName(), Math.max(7, made.getParameterCount()), 7);
            }
        }
    }

    private static void namesOfTheFace() {
        Due.part("rule 1: no private method bears the name of a public one");
        Set<String> face = new TreeSet<>();
        for (Method m : CouncilStore.class.getMethods()) {
            face.add(m.getName());
        }
        for (Class<?> c : classes()) {
            for (Method m : c.getDeclaredMethods()) {
                boolean open = c == CouncilStore.class && Modifier.isPublic(m.getModifiers());
                Due.due(c.getName() + "." + m.getName(), !open && face.contains(m.getName()) ? 1 : 0, 0);
            }
        }
    }
}
