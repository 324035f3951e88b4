public final class Promise11TemporaryTest {
    public static void main(String[] args) {
        Code code = new Code();
        for (int k = 0; k < 16; k++) {
            code.add(Code.toTemporary(1, k), Code.uniform(k));
        }
        ShaderMachine m = code.end().taken("sets all temporaries", false, 17);
        for (int k = 0; k < 16; k++) {
            m.uniform(k, 10 * k, 10 * k + 1, -10 * k, Integer.MIN_VALUE + k);
            Expect.vector("temporary " + k + " before a run", Code.temporary(m, k), 0, 0, 0, 0);
        }
        m.run();
        for (int k = 0; k < 16; k++) {
            Expect.vector("temporary " + k, Code.temporary(m, k), 10 * k, 10 * k + 1, -10 * k, Integer.MIN_VALUE + k);
        }
        for (int k = 0; k < 8; k++) {
            Expect.vector("out " + k, Code.out(m, k), 0, 0, 0, 0);
        }
        for (int k : new int[] {-1, 16, 17, 31, Integer.MIN_VALUE, Integer.MAX_VALUE, 1 << 30}) {
            Expect.index("temporary(" + k + ", 0)", () -> m.temporary(k, 0));
            Expect.index("temporary(" + k + ", -1)", () -> m.temporary(k, -1));
        }
        for (int part : new int[] {-1, 4, 5, Integer.MIN_VALUE, Integer.MAX_VALUE}) {
            Expect.index("temporary(0, " + part + ")", () -> m.temporary(0, part));
            Expect.index("temporary(1, " + part + ")", () -> m.temporary(1, part));
            Expect.index("temporary(15, " + part + ")", () -> m.temporary(15, part));
        }
        Expect.end();
    }
}
