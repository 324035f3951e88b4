public final class Promise08RunTest {
    public static void main(String[] args) {
        new Section(Part.RUN)
                .test("Runs the program", Promise08RunTest::runsProgram)
                .test("temporaries and outs being 0 first", Promise08RunTest::startsFromZero)
                .test("how many instructions were done", Promise08RunTest::counts)
                .test("(END and a 38 that ends it counted)", Promise08RunTest::countsLast)
                .test("IllegalStateException if there is none", Promise08RunTest::noProgram)
                .end();
    }

    private static void runsProgram() {
        ShaderMachine m = new Code()
                .add(Code.toTemporary(4, 0), Code.in(0), Code.uniform(0))
                .add(Code.toOut(2, 0), Code.temporary(0), Code.in(1))
                .end().taken("a product and a sum", false, 3);
        m.in(0, Code.ONE, 2 * Code.ONE, -Code.ONE, 0);
        m.uniform(0, 5, 6, 7, 8);
        m.in(1, 100, 200, 300, 400);
        Expect.is("run()", m.run(), 3);
        Expect.vector("out 0", Code.out(m, 0), 105, 212, 293, 400);
        Expect.is("run() again", m.run(), 3);
        Expect.vector("out 0 again", Code.out(m, 0), 105, 212, 293, 400);
        runsAreApart();
    }

    /** A run that was killed in loops leaves nothing for the next one, nor does a longer program. */
    private static void runsAreApart() {
        ShaderMachine m = new Code().loop(9).loop(9).loop(9).loop(9).add(Code.KILL, Code.in(0))
                .times(4, Code.ENDLOOP).end().taken("kills in loops", true, 14762);
        m.in(0, -1, 0, 0, 0);
        for (int i = 0; i < 3; i++) {
            Expect.is("run() killed in loops", m.run(), 5);
        }
        m.in(0, 1, 0, 0, 0);
        Expect.is("run() through all loops", m.run(), 14762);
        Expect.is("a shorter program", m.load(27, 1, false), 1);
        Expect.is("its run()", m.run(), 1);
    }

    private static void startsFromZero() {
        Code code = new Code();
        for (int k = 0; k < 16; k++) {
            code.add(Code.toTemporary(2, k), Code.temporary(k), Code.in(0));
        }
        code.add(Code.numbered(Code.GO_UNLESS_ABOVE, 25), Code.in(1));
        for (int k = 0; k < 8; k++) {
            code.add(Code.toOut(1, k), Code.in(0));
        }
        ShaderMachine m = code.end().taken("adds to all temporaries", false, 26);
        m.in(0, 1, 2, 3, 4);
        m.in(1, 1, 0, 0, 0);
        Expect.is("run()", m.run(), 26);
        Expect.vector("out 7", Code.out(m, 7), 1, 2, 3, 4);
        m.in(1, 0, 0, 0, 0);
        Expect.is("run() that sets no out", m.run(), 18);
        for (int k = 0; k < 16; k++) {
            Expect.vector("temporary " + k + " was 0 first", Code.temporary(m, k), 1, 2, 3, 4);
        }
        for (int k = 0; k < 8; k++) {
            Expect.vector("out " + k + " was 0 first", Code.out(m, k), 0, 0, 0, 0);
        }
        Expect.is("an END alone", m.load(75, 1, false), 1);
        m.run();
        Expect.vector("temporary 15, not set at all", Code.temporary(m, 15), 0, 0, 0, 0);
        insUniformsAndMemoryStay();
    }

    private static void insUniformsAndMemoryStay() {
        ShaderMachine m = new Code()
                .add(Code.toOut(2, 0), Code.in(7), Code.uniform(31))
                .add(Code.numbered(Code.toOut(32, 1), 3), Code.in(7))
                .add(Code.toOut(31, 2), Code.uniform(30))
                .end().taken("reads what was told", false, 4);
        m.in(7, 1, 2, 3, 4);
        m.uniform(31, 10, 20, 30, 40);
        m.uniform(30, 1023 * Code.ONE, 0, 0, 0);
        m.texture(3, 100, 200, 300, 400);
        m.poke(1023, 5);
        for (int i = 0; i < 2; i++) {
            m.run();
            Expect.vector("in and uniform", Code.out(m, 0), 11, 22, 33, 44);
            Expect.vector("texture", Code.out(m, 1), 101, 202, 300, 400);
            Expect.vector("memory", Code.out(m, 2), 5, 0, 0, 0);
        }
    }

    private static void counts() {
        ShaderMachine m = new Code()
                .add(Code.numbered(Code.GO_UNLESS_ABOVE, 3), Code.in(0))
                .add(Code.toOut(1, 0), Code.in(0))
                .add(Code.toOut(1, 0), Code.in(0))
                .loop(4).add(Code.toOut(1, 0), Code.in(0)).endLoop()
                .end().taken("goes over two", false, 1 + 2 + 1 + 8 + 1);
        Expect.is("run() over two", m.run(), 1 + 1 + 8 + 1);
        m.in(0, 1, 0, 0, 0);
        Expect.is("run() through all", m.run(), 13);
        longest();
    }

    private static void longest() {
        int add = Code.toTemporary(2, 0);
        int copy = Code.toOut(1, 0);
        // 1 + 2 + 2 * 255 * 128 + 2 steps, 1 + 49 * 5 in a second loop, four copies and the END
        ShaderMachine m = new Code()
                .loop(2).loop(255).times(127, add, Code.temporary(0), Code.in(0)).endLoop().endLoop()
                .loop(49).times(4, copy, Code.in(0)).endLoop()
                .times(4, copy, Code.in(0)).end().taken("65,536 steps", false, 65536);
        m.in(0, 1, 2, 3, 4);
        Expect.is("run() of 65,536 steps", m.run(), 65536);
        Expect.vector("what was added up", Code.temporary(m, 0), 64770, 129540, 194310, 259080);
        Expect.vector("what the last instructions set", Code.out(m, 0), 1, 2, 3, 4);
    }

    private static void countsLast() {
        Expect.is("END alone", new Code().end().taken("END", false, 1).run(), 1);
        ShaderMachine m = new Code().add(Code.KILL, Code.in(0)).add(Code.KILL, Code.in(1)).end().taken("38 twice", true, 3);
        Expect.is("run() to the END", m.run(), 3);
        m.in(1, 0, 0, 0, -1);
        Expect.is("run() to the second 38", m.run(), 2);
        m.in(0, 0, 0, 0, -1);
        Expect.is("run() to the first 38", m.run(), 1);
    }

    private static void noProgram() {
        ShaderMachine m = new ShaderMachine();
        Expect.state("run() of a new object", m::run);
        m.in(0, 1, 2, 3, 4);
        m.poke(0, 63);
        Expect.state("run() after other calls", m::run);
        Expect.argument("a load() that is refused", () -> m.load(0, 1, false));
        Expect.state("run() after it", m::run);
        Expect.index("a load() without words", () -> m.load(0, 0, false));
        Expect.state("run() after that", m::run);
        Expect.is("a load()", m.load(3, 1, false), 1);
        Expect.is("run() after this", m.run(), 1);
    }
}
