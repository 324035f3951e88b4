public final class Promise09KilledTest {
    public static void main(String[] args) {
        new Section(Part.KILLED)
                .test("Whether the latest run() was killed", () -> {
                    beforeAnyRun();
                    latestRun();
                    inALaterRound();
                    loadsDontChangeIt();
                })
                .end();
    }

    private static ShaderMachine kills() {
        return new Code()
                .add(Code.toOut(1, 0), Code.in(0))
                .add(Code.KILL, Code.in(0))
                .add(Code.toOut(1, 1), Code.in(0))
                .end().taken("kills", true, 4);
    }

    private static void beforeAnyRun() {
        ShaderMachine m = new ShaderMachine();
        Expect.holds("a new object's", !m.killed());
        Expect.state("run() that is refused", m::run);
        Expect.holds("after a run() that is refused", !m.killed());
        Expect.holds("after a load", !kills().killed());
    }

    private static void latestRun() {
        ShaderMachine m = kills();
        for (int part = 0; part < 4; part++) {
            for (int v : new int[] {-1, Integer.MIN_VALUE}) {
                int[] x = {1, 1, 1, 1};
                x[part] = v;
                Code.tellIn(m, 0, x);
                Expect.is("run() that is killed", m.run(), 2);
                Expect.holds("killed", m.killed());
                Expect.vector("set before", Code.out(m, 0), x[0], x[1], x[2], x[3]);
                Expect.vector("not set behind", Code.out(m, 1), 0, 0, 0, 0);
                m.in(0, 0, 0, 0, 0);
                Expect.holds("killed until the next run", m.killed());
                Expect.is("run() that isn't", m.run(), 4);
                Expect.holds("not killed", !m.killed());
            }
        }
    }

    private static void inALaterRound() {
        ShaderMachine m = new Code()
                .add(Code.toTemporary(1, 0), Code.uniform(0))
                .loop(3).loop(4)
                .add(Code.toTemporary(3, 0), Code.temporary(0), Code.in(0))
                .add(Code.KILL, Code.temporary(0))
                .endLoop().endLoop().end().taken("counts down", true, 1 + 1 + 3 + 12 * 3 + 3 + 1);
        m.in(0, 1, 0, 0, 0);
        m.uniform(0, 5, 0, 0, 0);
        for (int i = 0; i < 3; i++) {
            Expect.is("run() killed in the sixth round", m.run(), 1 + 1 + 1 + 4 * 3 + 1 + 1 + 3 + 2);
            Expect.holds("killed", m.killed());
        }
        m.uniform(0, 12, 0, 0, 0);
        Expect.is("run() through all rounds", m.run(), 45);
        Expect.holds("not killed", !m.killed());
    }

    private static void loadsDontChangeIt() {
        ShaderMachine m = kills();
        m.in(0, -1, 0, 0, 0);
        m.run();
        Expect.index("a load() without words", () -> m.load(0, 0, true));
        Expect.argument("a load() that is refused", () -> m.load(0, 4, false));
        Expect.is("a load() of another program", m.load(9, 1, true), 1);
        Expect.holds("killed", m.killed());
        Expect.is("run() of the other program", m.run(), 1);
        Expect.holds("not killed", !m.killed());
    }
}
