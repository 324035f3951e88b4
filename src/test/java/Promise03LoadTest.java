public final class Promise03LoadTest {
    private static final int MOST = Integer.MAX_VALUE;
    private static final int LEAST = Integer.MIN_VALUE;
    private static final int COPY = Code.toOut(1, 0);

    public static void main(String[] args) {
        new Section(Part.LOAD)
                .test("The program becomes that of so many instructions from word from of memory on", Promise03LoadTest::becomes)
                .test("for places or not", Promise03LoadTest::forPlacesOrNot)
                .test("its steps", Promise03LoadTest::steps)
                .test("IndexOutOfBoundsException if many is not 1 .. 256", Promise03LoadTest::tooFewOrMany)
                .test("or its words are not all there", Promise03LoadTest::wordsNotThere)
                .test("IllegalArgumentException if it has a fault", Promise03LoadTest::hasFault)
                .test("(the program before stays)", Promise03LoadTest::beforeStays)
                .test("Later changes of memory don't change it", Promise03LoadTest::laterChanges)
                .end();
    }

    private static void becomes() {
        ShaderMachine m = new ShaderMachine();
        new Code().add(Code.toOut(1, 0), Code.in(0)).add(Code.toOut(1, 1), Code.in(0)).end().poke(m, 0);
        new Code().add(Code.toOut(1, 2), Code.in(0)).end().poke(m, 1018);
        m.in(0, 1, 2, 3, 4);
        runsAndSets(m, 0, 3, 0b011);
        runsAndSets(m, 3, 2, 0b010);
        runsAndSets(m, 1018, 2, 0b100);
        runsAndSets(m, 6, 1, 0);
        runsAndSets(m, 1021, 1, 0);
        runsAndSets(m, 0, 3, 0b011);
        longest();
        otherStateStays();
    }

    private static void runsAndSets(ShaderMachine m, int from, int many, int outs) {
        Expect.is("load(" + from + ", " + many + ")", m.load(from, many, false), many);
        Expect.is("run() of it", m.run(), many);
        for (int k = 0; k < 3; k++) {
            Expect.is("out " + k + " of it", m.out(k, 3), (outs >> k & 1) != 0 ? 4 : 0);
        }
    }

    private static void longest() {
        ShaderMachine m = new ShaderMachine();
        Code longest = new Code().times(255, Code.IDLE).end();
        longest.pokeNew(m, 256);
        Expect.is("256 instructions at the end of memory", m.load(256, 256, false), 256);
        Expect.is("run() of them", m.run(), 256);
        Expect.argument("256 from one word before", () -> m.load(255, 256, false));
        Expect.is("the last 255", m.load(259, 255, false), 255);
        Expect.is("run() of those", m.run(), 255);
    }

    private static void otherStateStays() {
        ShaderMachine m = new Code().add(COPY, Code.in(0)).add(Code.toTemporary(1, 9), Code.in(0))
                .add(Code.KILL, Code.in(0)).end().taken("a program that is killed", true, 4);
        m.in(0, -1, 2, 3, 4);
        Expect.is("run()", m.run(), 3);
        m.load(9, 1, false);
        Expect.holds("killed() tells of the latest run", m.killed());
        Expect.vector("out", Code.out(m, 0), -1, 2, 3, 4);
        Expect.vector("temporary", Code.temporary(m, 9), -1, 2, 3, 4);
    }

    private static void forPlacesOrNot() {
        ShaderMachine m = new ShaderMachine();
        Code kills = new Code().add(Code.KILL, Code.in(0)).end();
        Expect.is("for places", kills.load(m, true), 2);
        Expect.argument("not for places", () -> kills.loadAgain(m, false));
        Expect.is("its fault", m.fault(0), 7);
        Expect.is("for places again", kills.loadAgain(m, true), 2);
        Expect.is("without 38, for places", m.load(3, 1, true), 1);
        Expect.is("without 38, not for places", m.load(3, 1, false), 1);
    }

    private static void steps() {
        new Code().end().taken("END", false, 1);
        new Code().loop(3).loop(5).add(COPY, Code.in(0)).endLoop().endLoop().end()
                .taken("two loops", false, 1 + 3 + 15 + 15 + 3 + 1);
        new Code().go(2).add(COPY, Code.in(0)).end().taken("one that is gone over", false, 3);
        stepsOfEachLoad();
    }

    /** What a program before had, refused or not, doesn't count to the next one's steps. */
    private static void stepsOfEachLoad() {
        ShaderMachine m = new ShaderMachine();
        Code open = new Code().loop(9).loop(9).loop(9).loop(9).end();
        Expect.argument("open loops", () -> open.load(m, false));
        Expect.is("four loops", new Code().loop(1).loop(1).loop(1).loop(1).times(4, Code.ENDLOOP).end().load(m, false), 9);
        Expect.argument("open loops again", () -> open.load(m, false));
        Expect.argument("an ENDLOOP", () -> new Code().endLoop().end().load(m, false));
        Expect.argument("many steps", () -> new Code().loop(255).loop(255).endLoop().endLoop().end().load(m, false));
        Expect.is("few steps", new Code().go(1).end().load(m, false), 2);
        Expect.is("few steps again", m.load(0, 2, false), 2);
    }

    private static void tooFewOrMany() {
        ShaderMachine m = new ShaderMachine();
        // 1431655766 * 3 is 2 as an int
        for (int many : new int[] {0, -1, -256, 257, 258, 300, 341, 342, LEAST, LEAST + 1, MOST, 1431655766, 715827883, -1431655765}) {
            Expect.index("load(0, " + many + ")", () -> m.load(0, many, true));
            Expect.index("load(1024, " + many + ")", () -> m.load(1024, many, false));
            Expect.index("load(-1, " + many + ")", () -> m.load(-1, many, false));
        }
        Expect.state("no program", m::run);
        Expect.is("1", m.load(0, 1, true), 1);
        new Code().times(255, Code.IDLE).end().taken("256", false, 256);
    }

    private static void wordsNotThere() {
        ShaderMachine m = new ShaderMachine();
        int[][] wrong = {
            {-1, 1}, {-2, 1}, {-3, 1}, {-3, 2}, {LEAST, 1}, {LEAST, 256}, {MOST, 1}, {MOST, 256}, {MOST - 1, 256}, {MOST - 2, 1},
            {1022, 1}, {1023, 1}, {1024, 1}, {1025, 1}, {1019, 2}, {257, 256}, {1024, 256}, {-768, 256},
        };
        for (int[] w : wrong) {
            Expect.index("load(" + w[0] + ", " + w[1] + ")", () -> m.load(w[0], w[1], true));
        }
        Expect.state("no program", m::run);
        Expect.is("the last words", m.load(1021, 1, true), 1);
        Expect.argument("the last words but six", () -> m.load(1018, 2, true));
        Expect.argument("the most words", () -> m.load(256, 256, true));
    }

    private static void hasFault() {
        new Code().add(63).refused("fault 1", true, 1, 0);
        new Code().add(1, Code.in(0)).end().refused("fault 2", true, 2, 0);
        new Code().add(COPY, Code.in(8)).end().refused("fault 3", true, 3, 0);
        new Code().loop(0).endLoop().end().refused("fault 4", true, 4, 0);
        new Code().endLoop().end().refused("fault 5", true, 5, 0);
        new Code().loop(1).end().refused("fault 5 of the whole", true, 5, 0);
        new Code().end().end().refused("fault 6", true, 6, 0);
        new Code().add(Code.KILL, Code.in(0)).end().refused("fault 7", false, 7, 0);
        new Code().loop(255).loop(255).endLoop().endLoop().end().refused("fault 8", true, 8, -1);
    }

    private static void beforeStays() {
        ShaderMachine m = new Code().add(Code.toOut(1, 2), Code.in(3)).end().taken("a first one", false, 2);
        m.in(3, 5, 6, 7, 8);
        Code wrong = new Code().add(Code.toOut(2, 2), Code.in(3), Code.in(3)).add(63).end();
        for (int i = 0; i < 3; i++) {
            Expect.argument("a wrong one", () -> wrong.load(m, false));
            Expect.is("run() of the one before", m.run(), 2);
            Expect.vector("its out", Code.out(m, 2), 5, 6, 7, 8);
        }
        Expect.index("one without words", () -> m.load(1022, 1, false));
        Expect.index("one of no instructions", () -> m.load(0, 0, false));
        Expect.is("run() of the one before, again", m.run(), 2);
        Code many = new Code().loop(255).loop(255).endLoop().endLoop().end();
        Expect.argument("one of too many steps", () -> many.load(m, false));
        Expect.is("run() of the one before, still", m.run(), 2);
        Code next = new Code().add(Code.toOut(2, 2), Code.in(3), Code.in(3)).end();
        Expect.is("another", next.load(m, false), 2);
        m.run();
        Expect.vector("its out", Code.out(m, 2), 10, 12, 14, 16);
        Expect.argument("a wrong one behind two", () -> wrong.load(m, false));
        m.run();
        Expect.vector("the second one's out", Code.out(m, 2), 10, 12, 14, 16);
    }

    private static void laterChanges() {
        ShaderMachine m = new Code().add(COPY, Code.in(0)).end().taken("a program", false, 2);
        m.in(0, 1, 2, 3, 4);
        for (int k = 0; k < 6; k++) {
            m.poke(k, -1);
            Expect.is("run() after a poke", m.run(), 2);
            Expect.vector("out after a poke", Code.out(m, 0), 1, 2, 3, 4);
        }
        Expect.argument("load() of what is there now", () -> m.load(0, 2, false));
        Expect.is("run() after that", m.run(), 2);
    }
}
