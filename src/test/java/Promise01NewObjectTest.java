public final class Promise01NewObjectTest {
    public static void main(String[] args) {
        Expect.is("NONE", ShaderMachine.NONE, -1);
        ShaderMachine m = new ShaderMachine();
        Expect.state("run() of a new object", m::run);
        Expect.holds("not killed", !m.killed());
        Expect.is("fault(0)", m.fault(0), 0);
        Expect.is("fault(1)", m.fault(1), -1);
        for (int k = 0; k < 8; k++) {
            Expect.vector("out " + k, Code.out(m, k), 0, 0, 0, 0);
        }
        for (int k = 0; k < 16; k++) {
            Expect.vector("temporary " + k, Code.temporary(m, k), 0, 0, 0, 0);
        }
        memoryIsZero();
        vectorsAreZero();
        objectsAreApart();
        Expect.end();
    }

    private static void memoryIsZero() {
        ShaderMachine m = new ShaderMachine();
        Expect.is("one END from the 0 words at the end", m.load(1021, 1, false), 1);
        Expect.argument("two ENDs", () -> m.load(0, 2, false));
        Expect.is("two ENDs: fault(0)", m.fault(0), 6);
        Expect.is("two ENDs: fault(1)", m.fault(1), 0);
    }

    private static void vectorsAreZero() {
        Code code = new Code();
        for (int k = 0; k < 8; k++) {
            code.add(Code.toTemporary(24, 0), Code.in(k), Code.temporary(0));
        }
        for (int k = 0; k < 32; k++) {
            code.add(Code.toTemporary(24, 1), Code.uniform(k), Code.temporary(1));
        }
        for (int k = 0; k < 4; k++) {
            code.add(Code.numbered(Code.toOut(32, k), k), Code.source(3, 0, 0, false));
        }
        ShaderMachine m = code.end().taken("read all", false, 45);
        m.run();
        Expect.vector("bits of all ins", Code.temporary(m, 0), 0, 0, 0, 0);
        Expect.vector("bits of all uniforms", Code.temporary(m, 1), 0, 0, 0, 0);
        for (int k = 0; k < 4; k++) {
            Expect.vector("texture " + k, Code.out(m, k), 0, 0, 0, 0);
        }
    }

    private static void objectsAreApart() {
        ShaderMachine one = new Code().add(Code.toOut(1, 0), Code.in(0)).end().taken("first object", false, 2);
        ShaderMachine other = new ShaderMachine();
        one.in(0, 1, 2, 3, 4);
        one.run();
        Expect.vector("the first object's out", Code.out(one, 0), 1, 2, 3, 4);
        Expect.vector("the other object's out", Code.out(other, 0), 0, 0, 0, 0);
        Expect.state("the other object's run()", other::run);
    }
}
