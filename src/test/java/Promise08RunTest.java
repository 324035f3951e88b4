public final class Promise08RunTest {
    public static void main(String[] args) {
        Expect.state("run() without a program", () -> new ShaderMachine().run());
        Expect.is("END alone", new Code().end().taken("END", false, 1).run(), 1);
        startsFromZero();
        loopsAreDone();
        goesOnElsewhere();
        goesOnInLoops();
        longestRun();
        Expect.end();
    }

    private static void startsFromZero() {
        ShaderMachine m = new Code()
                .add(Code.toTemporary(2, 0), Code.temporary(0), Code.in(0))
                .add(Code.GO_UNLESS_ABOVE | 4 << 17, Code.in(1))
                .add(Code.toOut(1, 0), Code.in(0))
                .add(Code.toTemporary(1, 15), Code.in(0))
                .end().taken("adds to a temporary", false, 5);
        m.in(0, 1, 2, 3, 4);
        m.in(1, 1, 0, 0, 0);
        Expect.is("run()", m.run(), 5);
        Expect.vector("out 0", Code.out(m, 0), 1, 2, 3, 4);
        Expect.vector("temporary 15", Code.temporary(m, 15), 1, 2, 3, 4);
        m.in(1, 0, 0, 0, 0);
        Expect.is("run() again", m.run(), 3);
        Expect.vector("temporary 0 was 0 first", Code.temporary(m, 0), 1, 2, 3, 4);
        Expect.vector("out 0 was 0 first", Code.out(m, 0), 0, 0, 0, 0);
        Expect.vector("temporary 15 was 0 first", Code.temporary(m, 15), 0, 0, 0, 0);
    }

    private static void loopsAreDone() {
        Code code = new Code();
        for (int i = 0; i < 4; i++) {
            code.loop(i + 2).add(Code.toTemporary(2, i), Code.temporary(i), Code.in(0));
        }
        ShaderMachine m = code.times(4, Code.ENDLOOP).end().taken("four loops", false, steps());
        m.in(0, 1, 0, 0, -1);
        Expect.is("run()", m.run(), steps());
        Expect.vector("outermost", Code.temporary(m, 0), 2, 0, 0, -2);
        Expect.vector("second", Code.temporary(m, 1), 6, 0, 0, -6);
        Expect.vector("third", Code.temporary(m, 2), 24, 0, 0, -24);
        Expect.vector("innermost", Code.temporary(m, 3), 120, 0, 0, -120);
        Expect.is("run() again", m.run(), steps());
    }

    private static int steps() {
        return 1 + 2 + 2 + 6 + 6 + 24 + 24 + 120 + 120 + 24 + 6 + 2 + 1;
    }

    private static void goesOnElsewhere() {
        ShaderMachine m = new Code()
                .add(Code.GO_UNLESS_ABOVE | 3 << 17, Code.source(1, 0, Code.WZYX, false))
                .add(Code.toOut(1, 0), Code.in(1))
                .go(4)
                .add(Code.toOut(1, 1), Code.in(1))
                .end().taken("either or", false, 5);
        m.in(1, 7, 7, 7, 7);
        int[][] cases = {{1, 4, 7, 0}, {0, 3, 0, 7}, {-1, 3, 0, 7}, {Integer.MIN_VALUE, 3, 0, 7}, {Integer.MAX_VALUE, 4, 7, 0}};
        for (int[] c : cases) {
            m.in(0, 0, 0, 0, c[0]);
            Expect.is("run() with " + c[0], m.run(), c[1]);
            Expect.is("out 0 with " + c[0], m.out(0, 0), c[2]);
            Expect.is("out 1 with " + c[0], m.out(1, 0), c[3]);
        }
    }

    private static void goesOnInLoops() {
        // to the ENDLOOP of its own loop, and onto a LOOP from around it
        ShaderMachine m = new Code()
                .go(2)
                .add(Code.toOut(1, 0), Code.in(0))
                .loop(3)
                .add(Code.toTemporary(2, 0), Code.temporary(0), Code.in(0))
                .go(6)
                .add(Code.toTemporary(2, 1), Code.temporary(1), Code.in(0))
                .endLoop()
                .end().taken("goes in loops", false, 1 + 1 + 1 + 3 * 4 + 1);
        m.in(0, 5, 6, 7, 8);
        Expect.is("run()", m.run(), 1 + 1 + 3 * 3 + 1);
        Expect.vector("done each time", Code.temporary(m, 0), 15, 18, 21, 24);
        Expect.vector("gone over", Code.temporary(m, 1), 0, 0, 0, 0);
        Expect.vector("gone over before", Code.out(m, 0), 0, 0, 0, 0);
    }

    private static void longestRun() {
        ShaderMachine m = longest(4).taken("65,536 steps", false, 65536);
        m.in(0, 1, 2, 3, 4);
        Expect.is("run() of 65,536 steps", m.run(), 65536);
        Expect.vector("what was added up", Code.temporary(m, 0), 64770, 129540, 194310, 259080);
        longest(5).refused("65,537 steps", false, 8, -1);
    }

    /** 1 + 2 + 2 * 255 * 128 + 2 steps, 1 + 49 * 5 in a second loop, the copies and the END. */
    private static Code longest(int copies) {
        int add = Code.toTemporary(2, 0);
        int copy = Code.toOut(1, 0);
        return new Code()
                .loop(2).loop(255).times(127, add, Code.temporary(0), Code.in(0)).endLoop().endLoop()
                .loop(49).times(4, copy, Code.in(0)).endLoop()
                .times(copies, copy, Code.in(0)).end();
    }
}
