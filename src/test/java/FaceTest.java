import java.lang.reflect.Constructor;
import java.lang.reflect.Field;
import java.lang.reflect.Method;
import java.lang.reflect.Modifier;

public final class FaceTest {
    private static final Class<?> MACHINE = ShaderMachine.class;
    private static final String[] METHODS = {
        "public void poke(int k, int v) throws IndexOutOfBoundsException;",
        "public int load(int from, int many, boolean places) throws IndexOutOfBoundsException, IllegalArgumentException;",
        "public int fault(int w);",
        "public void in(int k, int x, int y, int z, int w) throws IndexOutOfBoundsException;",
        "public void uniform(int k, int x, int y, int z, int w) throws IndexOutOfBoundsException;",
        "public void texture(int k, int x, int y, int z, int w) throws IndexOutOfBoundsException;",
        "public int run() throws IllegalStateException;",
        "public boolean killed();",
        "public int out(int k, int part) throws IndexOutOfBoundsException;",
        "public int temporary(int k, int part) throws IndexOutOfBoundsException;",
    };

    public static void main(String[] args) {
        Section section = new Section(Part.FACE)
                .test("public final class ShaderMachine", FaceTest::isPublicAndFinal)
                .test("public static final int NONE = -1;", FaceTest::hasNone)
                .test("public ShaderMachine();", FaceTest::hasConstructor);
        for (String method : METHODS) {
            section.test(method, () -> isDeclared(method));
        }
        section.end();
    }

    private static void isPublicAndFinal() {
        int modifiers = MACHINE.getModifiers();
        Expect.holds("public", Modifier.isPublic(modifiers));
        Expect.holds("final", Modifier.isFinal(modifiers));
        Expect.holds("no package", MACHINE.getPackageName().isEmpty());
        int methods = 0;
        for (Method m : MACHINE.getDeclaredMethods()) {
            methods += Modifier.isPrivate(m.getModifiers()) ? 0 : 1;
        }
        Expect.is("methods that are not private", methods, METHODS.length);
    }

    private static void hasNone() {
        Expect.is("NONE", ShaderMachine.NONE, -1);
        for (Field f : MACHINE.getDeclaredFields()) {
            boolean isNone = f.toString().equals("public static final int ShaderMachine.NONE");
            Expect.holds(f + " is private or NONE", isNone || Modifier.isPrivate(f.getModifiers()));
        }
    }

    private static void hasConstructor() {
        Constructor<?>[] constructors = MACHINE.getDeclaredConstructors();
        Expect.is("constructors", constructors.length, 1);
        Expect.holds("that constructor", constructors[0].toString().equals("public ShaderMachine()"));
    }

    private static void isDeclared(String method) {
        String due = method.replaceAll("(int|boolean) \\w+(?=[,)])", "$1").replace(", ", ",").replace(";", "");
        boolean found = false;
        for (Method m : MACHINE.getDeclaredMethods()) {
            found |= m.toString().replace("ShaderMachine.", "").replace("java.lang.", "").equals(due);
        }
        Expect.holds(due + " is declared", found);
    }
}
