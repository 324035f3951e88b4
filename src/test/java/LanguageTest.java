import java.io.IOException;
import java.lang.reflect.Constructor;
import java.lang.reflect.Field;
import java.lang.reflect.Method;
import java.lang.reflect.Modifier;
import java.nio.file.Files;
import java.nio.file.Path;
import java.util.Arrays;
import java.util.Set;
import java.util.TreeSet;

/** The face of the class, and the rules of LANGUAGE.md that reflection and the text can show. */
public final class LanguageTest {
    private static final Class<?> MACHINE = ShaderMachine.class;
    private static final String[] FACE = {
        "poke(int,int)void", "load(int,int,boolean)int", "fault(int)int",
        "in(int,int,int,int,int)void", "uniform(int,int,int,int,int)void", "texture(int,int,int,int,int)void",
        "run()int", "killed()boolean", "out(int,int)int", "temporary(int,int)int",
    };
    private static final String[] FORBIDDEN = {
        "try", "catch", "finally", "synchronized", "assert", "->", "::", "package", "Object", "System.nanoTime",
        "Random", "Exact(", "new Thread", "static {", ".values()", "float", "double", "throw e",
    };

    public static void main(String[] args) throws IOException {
        face();
        classesInside();
        text();
        Expect.end();
    }

    private static void face() {
        int modifiers = MACHINE.getModifiers();
        Expect.holds("public and final", Modifier.isPublic(modifiers) && Modifier.isFinal(modifiers));
        Expect.holds("no package", MACHINE.getPackageName().isEmpty());
        Set<String> visible = new TreeSet<>();
        Set<String> names = new TreeSet<>();
        for (Method m : MACHINE.getDeclaredMethods()) {
            if (Modifier.isPublic(m.getModifiers())) {
                visible.add(told(m));
                names.add(m.getName());
            }
        }
        Expect.holds("the methods " + visible, visible.equals(new TreeSet<>(Arrays.asList(FACE))));
        for (Method m : MACHINE.getDeclaredMethods()) {
            boolean isPublic = Modifier.isPublic(m.getModifiers());
            Expect.holds(m + " is public or private", isPublic || Modifier.isPrivate(m.getModifiers()));
            Expect.holds(m + " has a name of its own", isPublic || !names.contains(m.getName()));
        }
        for (Field f : MACHINE.getDeclaredFields()) {
            Expect.holds(f + " is private or NONE", Modifier.isPrivate(f.getModifiers()) || f.getName().equals("NONE"));
        }
        Constructor<?>[] constructors = MACHINE.getDeclaredConstructors();
        Expect.is("constructors", constructors.length, 1);
        Expect.holds("a public constructor", Modifier.isPublic(constructors[0].getModifiers()));
        Expect.is("its parameters", constructors[0].getParameterCount(), 0);
    }

    private static String told(Method m) {
        StringBuilder text = new StringBuilder(m.getName()).append('(');
        for (Class<?> p : m.getParameterTypes()) {
            text.append(text.charAt(text.length() - 1) == '(' ? "" : ",").append(p.getName());
        }
        return text.append(')').append(m.getReturnType().getName()).toString();
    }

    private static void classesInside() {
        Class<?>[] inside = MACHINE.getDeclaredClasses();
        Expect.holds("at most eleven classes inside", inside.length <= 11);
        for (Class<?> c : inside) {
            int modifiers = c.getModifiers();
            Expect.holds(c + " is static", Modifier.isStatic(modifiers));
            Expect.holds(c + " is not public", !Modifier.isPublic(modifiers) && !Modifier.isProtected(modifiers));
            int fields = 0;
            for (Field f : c.getDeclaredFields()) {
                boolean isStatic = Modifier.isStatic(f.getModifiers());
                fields += isStatic ? 0 : 1;
                Expect.holds(f + " is final if static", !isStatic || Modifier.isFinal(f.getModifiers()));
            }
            Expect.holds(c + " has at most twenty fields", fields <= 20);
            for (Method m : c.getDeclaredMethods()) {
                Expect.holds(m + " has at most seven parameters", m.getParameterCount() <= 7);
            }
        }
    }

    private static void text() throws IOException {
        String source = System.getProperty("machine.source", "src/main/java/ShaderMachine.java");
        String text = Files.readString(Path.of(source)).replaceAll("/\\*\\*.*\\*/|//.*", "");
        for (String word : FORBIDDEN) {
            boolean isWord = Character.isLetter(word.charAt(0)) && Character.isLetter(word.charAt(word.length() - 1));
            boolean found = isWord ? text.matches("(?s).*\\b" + word + "\\b.*") : text.contains(word);
            Expect.holds("no " + word, !found);
        }
        for (String line : text.split("\n")) {
            if (line.startsWith("import")) {
                Expect.holds(line, line.equals("import java.util.Arrays;"));
            }
        }
    }
}
