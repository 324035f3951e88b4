public final class Promise09KilledTest {
    public static void main(String[] args) {
        ShaderMachine m = new Code()
                .add(Code.toOut(1, 0), Code.in(0))
                .add(Code.KILL, Code.in(0))
                .add(Code.toOut(1, 1), Code.in(0))
                .end().taken("kills", true, 4);
        Expect.holds("not killed before a run", !m.killed());
        for (int part = 0; part < 4; part++) {
            killedBy(m, part, -1);
            killedBy(m, part, Integer.MIN_VALUE);
        }
        m.in(0, 0, 0, 0, 0);
        notKilled(m);
        m.in(0, 1, 2, 3, Integer.MAX_VALUE);
        notKilled(m);
        killedInLoop();
        killedInALaterRound();
        programWithoutKill();
        Expect.end();
    }

    private static void killedBy(ShaderMachine m, int part, int v) {
        int[] x = {1, 1, 1, 1};
        x[part] = v;
        m.in(0, x[0], x[1], x[2], x[3]);
        Expect.is("run() that is killed", m.run(), 2);
        Expect.holds("killed", m.killed());
        Expect.vector("set before", Code.out(m, 0), x[0], x[1], x[2], x[3]);
        Expect.vector("not set behind", Code.out(m, 1), 0, 0, 0, 0);
        m.in(0, 0, 0, 0, 0);
        Expect.holds("still killed", m.killed());
        notKilled(m);
    }

    private static void notKilled(ShaderMachine m) {
        Expect.is("run() that isn't killed", m.run(), 4);
        Expect.holds("not killed", !m.killed());
    }

    /** A run after one that was killed in loops starts outside of all loops. */
    private static void killedInLoop() {
        ShaderMachine m = new Code().loop(9).loop(9).loop(9).loop(9).add(Code.KILL, Code.in(0))
                .times(4, Code.ENDLOOP).end().taken("kills in loops", true, 14762);
        m.in(0, -1, 0, 0, 0);
        for (int i = 0; i < 3; i++) {
            Expect.is("run() killed in loops", m.run(), 5);
            Expect.holds("killed", m.killed());
        }
        m.in(0, 1, 0, 0, 0);
        Expect.is("run() through all loops", m.run(), 14762);
        Expect.holds("not killed", !m.killed());
    }

    private static void killedInALaterRound() {
        ShaderMachine m = new Code()
                .add(Code.toTemporary(1, 0), Code.uniform(0))
                .loop(3).loop(4)
                .add(Code.toTemporary(3, 0), Code.temporary(0), Code.in(0))
                .add(Code.KILL, Code.temporary(0))
                .endLoop().endLoop().end().taken("counts down", true, 1 + 1 + 3 + 12 * 3 + 3 + 1);
        m.in(0, 1, 0, 0, 0);
        m.uniform(0, 5, 0, 0, 0);
        for (int i = 0; i < 3; i++) {
            Expect.is("run() killed in the sixth round", m.run(), 1 + 1 + 1 + 4 * 3 + 1 + 1 + 3 + 2);
            Expect.holds("killed", m.killed());
        }
        m.uniform(0, 12, 0, 0, 0);
        Expect.is("run() through all rounds", m.run(), 45);
        Expect.holds("not killed", !m.killed());
    }

    private static void programWithoutKill() {
        ShaderMachine m = new Code().add(Code.KILL, Code.in(0)).end().taken("kills at once", true, 2);
        m.in(0, -1, -1, -1, -1);
        Expect.is("run() that is killed", m.run(), 1);
        Expect.holds("killed", m.killed());
        Expect.is("a program without 38", m.load(3, 1, true), 1);
        Expect.is("its run()", m.run(), 1);
        Expect.holds("not killed", !m.killed());
    }
}
