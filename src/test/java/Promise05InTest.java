public final class Promise05InTest {
    public static void main(String[] args) {
        Code code = new Code();
        for (int k = 0; k < 8; k++) {
            code.add(Code.toOut(1, k), Code.in(k));
        }
        ShaderMachine m = code.end().taken("copies of all ins", false, 9);
        for (int k = 0; k < 8; k++) {
            m.in(k, k, -k, Integer.MAX_VALUE - k, Integer.MIN_VALUE + k);
        }
        for (int k : new int[] {-1, 8, 9, 31, Integer.MIN_VALUE, Integer.MAX_VALUE, 1 << 30}) {
            Expect.index("in(" + k + ", ..)", () -> m.in(k, 1, 1, 1, 1));
        }
        m.run();
        for (int k = 0; k < 8; k++) {
            Expect.vector("in " + k, Code.out(m, k), k, -k, Integer.MAX_VALUE - k, Integer.MIN_VALUE + k);
        }
        m.in(7, 4, 3, 2, 1);
        Expect.vector("out before the next run", Code.out(m, 7), 7, -7, Integer.MAX_VALUE - 7, Integer.MIN_VALUE + 7);
        m.run();
        Expect.vector("in 7, told again", Code.out(m, 7), 4, 3, 2, 1);
        Expect.vector("in 6, as before", Code.out(m, 6), 6, -6, Integer.MAX_VALUE - 6, Integer.MIN_VALUE + 6);
        Expect.end();
    }
}
