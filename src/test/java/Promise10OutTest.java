public final class Promise10OutTest {
    public static void main(String[] args) {
        Code code = new Code();
        for (int k = 0; k < 8; k++) {
            code.add(Code.toOut(1, k), Code.uniform(k));
        }
        ShaderMachine m = code.end().taken("sets all outs", false, 9);
        for (int k = 0; k < 8; k++) {
            m.uniform(k, 10 * k, 10 * k + 1, -10 * k, Integer.MIN_VALUE + k);
            Expect.vector("out " + k + " before a run", Code.out(m, k), 0, 0, 0, 0);
        }
        m.run();
        for (int k = 0; k < 8; k++) {
            Expect.vector("out " + k, Code.out(m, k), 10 * k, 10 * k + 1, -10 * k, Integer.MIN_VALUE + k);
            Expect.vector("temporary " + k, Code.temporary(m, k), 0, 0, 0, 0);
        }
        int[] wrong = {-1, 8, 15, 16, Integer.MIN_VALUE, Integer.MAX_VALUE, 1 << 30};
        for (int k : wrong) {
            Expect.index("out(" + k + ", 0)", () -> m.out(k, 0));
            Expect.index("out(" + k + ", 4)", () -> m.out(k, 4));
        }
        for (int part : new int[] {-1, 4, 5, Integer.MIN_VALUE, Integer.MAX_VALUE}) {
            Expect.index("out(0, " + part + ")", () -> m.out(0, part));
            Expect.index("out(1, " + part + ")", () -> m.out(1, part));
            Expect.index("out(7, " + part + ")", () -> m.out(7, part));
        }
        Expect.end();
    }
}
