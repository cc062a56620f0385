import java.io.IOException;
import java.lang.reflect.Field;
import java.lang.reflect.Method;
import java.lang.reflect.Modifier;
import java.nio.file.Files;
import java.nio.file.Path;
import java.util.ArrayList;
import java.util.Arrays;
import java.util.List;
import java.util.TreeSet;
import java.util.regex.Matcher;
import java.util.regex.Pattern;

/** The face of the class, and those rules of LANGUAGE.md that can be seen without understanding the program. */
public final class LanguageTest {
    private static final String[] FACE = {
        "boolean begin(int, int)", "boolean poke(int, int, int)", "int compile(int, int)", "int differ(int, int)",
        "int fault(int)", "int feed(int, int, int, int, int)", "int keep(int, int)", "int memory(int)",
        "int output(int)", "int own(int)", "int self(int)", "int size(int)", "int state(int)", "int step(int)",
        "int take(int)", "int text(int, int)", "int top(int)", "int word(int, int)"
    };
    private static final String[] WORDS_NOT_USED = {
        "throw", "throws", "try", "catch", "finally", "synchronized", "assert", "package", "protected", "double",
        "float", "Object", "System.out", "System.exit", "Random", "Thread", "hashCode", "toString", "Exception"
    };

    public static void main(String[] args) throws IOException {
        face();
        classes();
        source(Files.readString(Path.of(System.getProperty("house.root"), "src/main/java/SelfHouse.java")));
        Due.end();
    }

    private static String shown(Method m) {
        List<String> types = new ArrayList<>();
        for (Class<?> t : m.getParameterTypes()) {
            types.add(t.getSimpleName());
        }
        return m.getReturnType().getSimpleName() + " " + m.getName() + "(" + String.join(", ", types) + ")";
    }

    private static void face() {
        TreeSet<String> seen = new TreeSet<>();
        for (Method m : SelfHouse.class.getDeclaredMethods()) {
            if (!Modifier.isPrivate(m.getModifiers())) {
                Due.due(m + " is public", Modifier.isPublic(m.getModifiers()), true);
                seen.add(shown(m));
            }
        }
        Due.due("the methods", seen.toString(), new TreeSet<>(Arrays.asList(FACE)).toString());
        for (Field f : SelfHouse.class.getDeclaredFields()) {
            Due.due(f + " is private", Modifier.isPrivate(f.getModifiers()), !f.getName().equals("NONE"));
        }
        Due.due("constructors", SelfHouse.class.getDeclaredConstructors().length, 1);
        Due.due("a public final class", SelfHouse.class.getModifiers(), Modifier.PUBLIC | Modifier.FINAL);
    }

    private static void classes() {
        Class<?>[] inside = SelfHouse.class.getDeclaredClasses();
        Due.due("at most twelve classes", inside.length < 12, true);
        for (Class<?> c : inside) {
            Due.due(c + " is static", Modifier.isStatic(c.getModifiers()), true);
            int fields = 0;
            for (Field f : c.getDeclaredFields()) {
                boolean isStatic = Modifier.isStatic(f.getModifiers());
                Due.due(f + " is final if it is static", !isStatic || Modifier.isFinal(f.getModifiers()), true);
                fields += isStatic ? 0 : 1;
            }
            Due.due(c + " has at most twenty fields", fields <= 20, true);
            for (Method m : c.getDeclaredMethods()) {
                Due.due(m + " has at most seven parameters", m.getParameterCount() <= 7, true);
                for (String line : FACE) {
                    Due.due(m + " bears no public name", line.contains(" " + m.getName() + "("), false);
                }
            }
        }
    }

    private static void source(String all) {
        String bare = all.replaceAll("\"(\\\\.|[^\"\\\\])*\"", "\"\"").replaceAll("(?s)/\\*.*?\\*/", "")
            .replaceAll("//[^\n]*", "");
        for (String word : WORDS_NOT_USED) {
            Due.due("'" + word + "' is used", Pattern.compile("\\b" + Pattern.quote(word) + "\\b").matcher(bare).find(),
                false);
        }
        Due.due("lambdas and references", bare.contains("->") || bare.contains("::"), false);
        Due.due("functions that end in Exact", bare.contains("Exact("), false);
        Due.due("texts joined by +", bare.contains("\" +") || bare.contains("+ \""), false);
        Matcher imports = Pattern.compile("import ([^;]+);").matcher(bare);
        while (imports.find()) {
            Due.due("import " + imports.group(1), imports.group(1), "java.util.Arrays");
        }
        methodsAreShort(all);
    }

    private static void methodsAreShort(String all) {
        int from = -1;
        String[] lines = all.split("\n");
        for (int i = 0; i < lines.length; i++) {
            if (lines[i].matches(" {4,8}(private|public|static|void|int|boolean|[A-Z]).*\\) \\{")) {
                from = i;
            }
            if (from >= 0 && lines[i].equals(lines[from].replaceAll("\\S.*", "") + "}")) {
                Due.due("lines of " + lines[from].trim() + " are at most sixty", i - from + 1 <= 60, true);
                from = -1;
            }
            Due.due("a line of at most 120 characters: " + (i + 1), lines[i].length() <= 120, true);
        }
    }
}
