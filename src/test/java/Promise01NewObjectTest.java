public final class Promise01NewObjectTest {
    public static void main(String[] args) {
        new Section(Part.NEW_OBJECT)
                .test("All vectors", Promise01NewObjectTest::vectors)
                .test("and the memory are 0", Promise01NewObjectTest::memory)
                .test("no program", Promise01NewObjectTest::noProgram)
                .end();
    }

    private static void vectors() {
        ShaderMachine m = new ShaderMachine();
        for (int k = 0; k < 8; k++) {
            Expect.vector("out " + k, Code.out(m, k), 0, 0, 0, 0);
        }
        for (int k = 0; k < 16; k++) {
            Expect.vector("temporary " + k, Code.temporary(m, k), 0, 0, 0, 0);
        }
        vectorsThatAreRead();
        objectsAreApart();
    }

    private static void vectorsThatAreRead() {
        Code code = new Code();
        for (int k = 0; k < 8; k++) {
            code.add(Code.toTemporary(24, 0), Code.in(k), Code.temporary(0));
        }
        for (int k = 0; k < 32; k++) {
            code.add(Code.toTemporary(24, 1), Code.uniform(k), Code.temporary(1));
        }
        for (int k = 0; k < 4; k++) {
            code.add(Code.numbered(Code.toOut(32, k), k), Code.source(3, 0, 0, false));
        }
        ShaderMachine m = code.end().taken("read all", false, 45);
        m.run();
        Expect.vector("bits of all ins", Code.temporary(m, 0), 0, 0, 0, 0);
        Expect.vector("bits of all uniforms", Code.temporary(m, 1), 0, 0, 0, 0);
        for (int k = 0; k < 4; k++) {
            Expect.vector("texture " + k, Code.out(m, k), 0, 0, 0, 0);
        }
    }

    private static void objectsAreApart() {
        Code code = new Code().add(Code.toOut(1, 0), Code.in(0)).end();
        ShaderMachine one = code.taken("the first object", false, 2);
        ShaderMachine other = code.taken("the other object", false, 2);
        one.in(0, 1, 2, 3, 4);
        one.run();
        other.run();
        Expect.vector("the first object's out", Code.out(one, 0), 1, 2, 3, 4);
        Expect.vector("the other object's out", Code.out(other, 0), 0, 0, 0, 0);
    }

    private static void memory() {
        ShaderMachine m = new ShaderMachine();
        for (int from = 0; from < 1022; from += 3) {
            Expect.is("an END from word " + from + " on", m.load(from, 1, false), 1);
        }
        Expect.is("an END of the last words", m.load(1021, 1, false), 1);
        Expect.argument("two ENDs", () -> m.load(0, 2, false));
        Expect.is("two ENDs: fault(0)", m.fault(0), 6);
        Expect.is("two ENDs: fault(1)", m.fault(1), 0);
    }

    private static void noProgram() {
        ShaderMachine m = new ShaderMachine();
        Expect.state("run()", m::run);
        Expect.state("run() again", m::run);
        Expect.holds("not killed", !m.killed());
        Expect.is("fault(0)", m.fault(0), 0);
        Expect.is("fault(1)", m.fault(1), ShaderMachine.NONE);
        ShaderMachine other = new Code().end().taken("another object's program", false, 1);
        Expect.is("its run()", other.run(), 1);
        Expect.state("run() without one of its own", () -> new ShaderMachine().run());
    }
}
