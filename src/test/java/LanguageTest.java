import java.io.IOException;
import java.lang.reflect.Field;
import java.lang.reflect.Method;
import java.lang.reflect.Modifier;
import java.nio.file.Files;
import java.nio.file.Path;
import java.util.Set;
import java.util.TreeSet;

/** The rules of LANGUAGE.md that reflection and the text can show. */
public final class LanguageTest {
    private static final Class<?> MACHINE = ShaderMachine.class;
    private static final String[] FORBIDDEN = {
        "try", "catch", "finally", "synchronized", "assert", "->", "::", "package", "Object", "System.nanoTime",
        "Random", "Exact(", "new Thread", "static {", ".values()", "float", "double", "throw e",
    };

    public static void main(String[] args) throws IOException {
        namesOfMethods();
        classesInside();
        text();
        Expect.end();
    }

    private static void namesOfMethods() {
        Set<String> names = new TreeSet<>();
        for (Method m : MACHINE.getDeclaredMethods()) {
            if (Modifier.isPublic(m.getModifiers())) {
                names.add(m.getName());
            }
        }
        for (Method m : MACHINE.getDeclaredMethods()) {
            boolean isPublic = Modifier.isPublic(m.getModifiers());
            Expect.holds(m + " is public or private", isPublic || Modifier.isPrivate(m.getModifiers()));
            Expect.holds(m + " has a name of its own", isPublic || !names.contains(m.getName()));
        }
    }

    private static void classesInside() {
        Class<?>[] inside = MACHINE.getDeclaredClasses();
        Expect.holds("at most eleven classes inside", inside.length <= 11);
        for (Class<?> c : inside) {
            int modifiers = c.getModifiers();
            Expect.holds(c + " is static", Modifier.isStatic(modifiers));
            Expect.holds(c + " is not public", !Modifier.isPublic(modifiers) && !Modifier.isProtected(modifiers));
            int fields = 0;
            for (Field f : c.getDeclaredFields()) {
                boolean isStatic = Modifier.isStatic(f.getModifiers());
                fields += isStatic ? 0 : 1;
                Expect.holds(f + " is final if static", !isStatic || Modifier.isFinal(f.getModifiers()));
            }
            Expect.holds(c + " has at most twenty fields", fields <= 20);
            for (Method m : c.getDeclaredMethods()) {
                Expect.holds(m + " has at most seven parameters", m.getParameterCount() <= 7);
            }
        }
    }

    private static void text() throws IOException {
        String source = System.getProperty("machine.source", "src/main/java/ShaderMachine.java");
        String text = Files.readString(Path.of(source)).replaceAll("/\\*\\*.*\\*/|//.*", "");
        for (String word : FORBIDDEN) {
            boolean isWord = Character.isLetter(word.charAt(0)) && Character.isLetter(word.charAt(word.length() - 1));
            boolean found = isWord ? text.matches("(?s).*\\b" + word + "\\b.*") : text.contains(word);
            Expect.holds("no " + word, !found);
        }
        for (String line : text.split("\n")) {
            if (line.startsWith("import")) {
                Expect.holds(line, line.equals("import java.util.Arrays;"));
            }
        }
    }
}
