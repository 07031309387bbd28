import java.io.IOException;
import java.lang.reflect.Constructor;
import java.lang.reflect.Field;
import java.lang.reflect.Method;
import java.lang.reflect.Modifier;
import java.nio.file.Files;
import java.nio.file.Path;
import java.util.HashSet;
import java.util.List;
import java.util.Set;
import java.util.TreeSet;

/** The rules of ../shared/LANGUAGE.md that a program can look at. Takes the source's path. */
public final class LanguageTest {
    private static final String[] FACE = {
        "mode", "room", "slope", "jump", "guard", "set", "start", "box", "wrong", "most", "safe", "heap", "side",
        "comes", "many", "shown", "shownAt", "fence", "open", "holds", "run", "tick", "leap", "now", "sheet", "lay",
        "draw", "count"
    };
    private static final String[] CONSTANTS = {"BAD", "STATE", "FULL", "NONE", "DOUBTFUL", "SPENT"};
    private static final String[] FORBIDDEN_WORDS = {
        "throw", "throws", "try", "catch", "finally", "synchronized", "assert", "import", "package", "native",
        "volatile", "transient", "System", "Object", "Thread", "equals", "hashCode", "toString"
    };

    private final Due due = new Due();

    public static void main(String[] args) throws IOException {
        LanguageTest test = new LanguageTest();
        test.face();
        for (Class<?> inner : JumpFlows.class.getDeclaredClasses()) {
            test.inner(inner);
        }
        test.due.is("classes", JumpFlows.class.getDeclaredClasses().length + 1 <= 12 ? 1 : 0, 1);
        test.source(Files.readAllLines(Path.of(args[0])));
        test.due.end("LanguageTest");
    }

    private void holds(String what, boolean yes) {
        due.is(what, yes ? 1 : 0, 1);
    }

    private void face() {
        due.part("rule 1");
        Class<?> c = JumpFlows.class;
        holds("public and final", Modifier.isPublic(c.getModifiers()) && Modifier.isFinal(c.getModifiers()));
        Set<String> shown = new TreeSet<>();
        for (Method m : c.getDeclaredMethods()) {
            if (!Modifier.isPrivate(m.getModifiers()) && !m.isSynthetic()) {
                holds(m + " is public", Modifier.isPublic(m.getModifiers()) && !Modifier.isStatic(m.getModifiers()));
                holds(m + " is told once", shown.add(m.getName()));
            }
        }
        holds("methods " + shown, shown.equals(new TreeSet<>(List.of(FACE))));
        Set<String> constants = new TreeSet<>();
        for (Field f : c.getDeclaredFields()) {
            if (!Modifier.isPrivate(f.getModifiers())) {
                constants.add(f.getName());
            }
        }
        holds("constants " + constants, constants.equals(new TreeSet<>(List.of(CONSTANTS))));
        for (Constructor<?> made : c.getDeclaredConstructors()) {
            holds("constructor", Modifier.isPublic(made.getModifiers()) && made.getParameterCount() == 0);
        }
        members(c);
    }

    private void inner(Class<?> c) {
        due.part("rule 2, " + c.getSimpleName());
        holds("static", Modifier.isStatic(c.getModifiers()));
        holds("private", Modifier.isPrivate(c.getModifiers()));
        holds("no classes inside", c.getDeclaredClasses().length == 0);
        members(c);
    }

    private void members(Class<?> c) {
        int fields = 0;
        for (Field f : c.getDeclaredFields()) {
            boolean isStatic = Modifier.isStatic(f.getModifiers());
            holds(f + " is private or a constant", Modifier.isPrivate(f.getModifiers()) || isStatic);
            holds(f + " is final if static", !isStatic || Modifier.isFinal(f.getModifiers()));
            fields += isStatic ? 0 : 1;
        }
        holds("at most twenty fields", fields <= 20);
        Set<String> face = new HashSet<>(List.of(FACE));
        for (Method m : c.getDeclaredMethods()) {
            holds(m + " has at most seven parameters", m.getParameterCount() <= 7);
            boolean ofFace = c == JumpFlows.class && Modifier.isPublic(m.getModifiers());
            holds(m + " bears no name of the face", ofFace || !face.contains(m.getName()));
        }
    }

    private void source(List<String> lines) {
        due.part("source");
        int begun = -1;
        for (int i = 0; i < lines.size(); i++) {
            String line = lines.get(i);
            holds("signs of line " + (i + 1), line.matches("[ -~]*"));
            String code = line.replaceAll("^\\s*(/\\*\\*|\\*|//).*", "");
            for (String word : FORBIDDEN_WORDS) {
                holds(word + " in line " + (i + 1), !code.matches(".*\\b" + word + "\\b.*"));
            }
            holds("lambda in line " + (i + 1), !code.contains("->") && !code.contains("::"));
            holds("Exact in line " + (i + 1), !code.contains("Exact("));
            boolean opens = code.matches(" {4}( {4})?[a-zA-Z].*\\(.*\\) \\{");
            begun = opens ? i : begun;
            if (code.matches(" {4}( {4})?\\}") && begun >= 0) {
                holds("length of the method at line " + (begun + 1), i - begun <= 60);
                begun = -1;
            }
        }
    }
}
