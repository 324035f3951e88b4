public final class Promise03LoadTest {
    public static void main(String[] args) {
        wordsThatAreNotThere();
        edgesOfMemory();
        programBeforeStays();
        laterChangesDontMatter();
        stepsOfLoops();
        stateStaysOverLoad();
        loadsAreApart();
        Expect.end();
    }

    private static void wordsThatAreNotThere() {
        ShaderMachine m = new ShaderMachine();
        int[][] wrong = {
            {0, 0}, {0, -1}, {0, 257}, {0, Integer.MIN_VALUE}, {0, Integer.MAX_VALUE},
            {-1, 1}, {Integer.MIN_VALUE, 1}, {Integer.MAX_VALUE, 1}, {1022, 1}, {1023, 1}, {1024, 1},
            {1019, 2}, {257, 256}, {Integer.MAX_VALUE - 1, 256}, {-3, 2}, {0, 1431655766}, {0, 342},
            {0, 341}, {1024, 0},
        };
        for (int[] w : wrong) {
            Expect.index("load(" + w[0] + ", " + w[1] + ")", () -> m.load(w[0], w[1], true));
            Expect.is("fault(0)", m.fault(0), 0);
            Expect.is("fault(1)", m.fault(1), -1);
        }
        Expect.state("no program", m::run);
    }

    private static void edgesOfMemory() {
        Code longest = new Code().times(255, Code.toOut(1, 0), Code.in(0)).end();
        ShaderMachine m = new ShaderMachine();
        longest.poke(m, 256);
        Expect.is("the longest, at the end of memory", m.load(256, 256, false), 256);
        Expect.is("run() of the longest", m.run(), 256);
        Expect.is("one at the end", m.load(1021, 1, true), 1);
        Expect.is("run() of that", m.run(), 1);
    }

    private static void programBeforeStays() {
        ShaderMachine m = new Code().add(Code.toOut(1, 2), Code.in(3)).end().taken("a first one", false, 2);
        m.in(3, 5, 6, 7, 8);
        Code wrong = new Code().add(Code.toOut(2, 2), Code.in(3), Code.in(3)).add(63).end();
        Expect.argument("a wrong one", () -> wrong.load(m, false));
        Expect.is("run() of the one before", m.run(), 2);
        Expect.vector("its out", Code.out(m, 2), 5, 6, 7, 8);
        Expect.argument("a wrong one again", () -> wrong.loadAgain(m, false));
        Expect.index("one without words", () -> m.load(1022, 1, false));
        Expect.is("run() of the one before, again", m.run(), 2);
        Code next = new Code().add(Code.toOut(2, 2), Code.in(3), Code.in(3)).end();
        Expect.is("another", next.load(m, false), 2);
        m.run();
        Expect.vector("its out", Code.out(m, 2), 10, 12, 14, 16);
    }

    private static void laterChangesDontMatter() {
        ShaderMachine m = new Code().add(Code.toOut(1, 0), Code.in(0)).end().taken("a program", false, 2);
        m.in(0, 1, 2, 3, 4);
        for (int k = 0; k < 6; k++) {
            m.poke(k, -1);
        }
        Expect.is("run() after pokes", m.run(), 2);
        Expect.vector("out after pokes", Code.out(m, 0), 1, 2, 3, 4);
    }

    private static void stepsOfLoops() {
        new Code().loop(3).loop(5).add(Code.toOut(1, 0), Code.in(0)).endLoop().endLoop().end()
                .taken("two loops", false, 1 + 3 + 15 + 15 + 3 + 1);
        new Code().loop(2).endLoop().loop(4).endLoop().end()
                .taken("loops side by side", false, 1 + 2 + 1 + 4 + 1);
        new Code().loop(2).loop(2).loop(2).loop(2).endLoop().endLoop().endLoop().endLoop().end()
                .taken("four loops", false, 1 + 2 + 4 + 8 + 16 + 8 + 4 + 2 + 1);
        new Code().go(2).add(Code.toOut(1, 0), Code.in(0)).end()
                .taken("what is gone over is counted", false, 3);
    }

    private static void stateStaysOverLoad() {
        Code code = new Code().add(Code.toOut(1, 0), Code.in(0))
                .add(Code.toTemporary(1, 9), Code.in(0)).add(Code.KILL, Code.in(0)).end();
        ShaderMachine m = code.taken("a program that is killed", true, 4);
        m.in(0, -1, 2, 3, 4);
        Expect.is("run()", m.run(), 3);
        m.load(9, 1, false);
        Expect.holds("killed() tells of the latest run", m.killed());
        Expect.vector("out", Code.out(m, 0), -1, 2, 3, 4);
        Expect.vector("temporary", Code.temporary(m, 9), -1, 2, 3, 4);
    }

    /** Loops that a refused program leaves open are not around the next one. */
    private static void loadsAreApart() {
        ShaderMachine m = new ShaderMachine();
        Code open = new Code().loop(9).loop(9).loop(9).loop(9).end();
        Expect.argument("open loops", () -> open.load(m, false));
        Expect.is("four loops behind that", new Code().loop(1).loop(1).loop(1).loop(1).times(4, Code.ENDLOOP).end().load(m, false), 9);
        Expect.argument("open loops again", () -> open.load(m, false));
        Expect.argument("an ENDLOOP behind that", () -> new Code().endLoop().end().load(m, false));
        Expect.argument("too many steps", () -> new Code().loop(255).loop(255).endLoop().endLoop().end().load(m, false));
        Expect.is("few steps behind that", new Code().go(1).end().load(m, false), 2);
    }
}
