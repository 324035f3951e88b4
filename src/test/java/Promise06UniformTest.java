public final class Promise06UniformTest {
    public static void main(String[] args) {
        ShaderMachine m = new ShaderMachine();
        for (int k = 0; k < 32; k++) {
            m.uniform(k, k, -k, 1000 * k, Integer.MIN_VALUE + k);
        }
        for (int k : new int[] {-1, 32, 33, Integer.MIN_VALUE, Integer.MAX_VALUE, 1 << 30}) {
            Expect.index("uniform(" + k + ", ..)", () -> m.uniform(k, 1, 1, 1, 1));
        }
        for (int from = 0; from < 32; from += 8) {
            Code code = new Code();
            for (int k = 0; k < 8; k++) {
                code.add(Code.toOut(1, k), Code.uniform(from + k));
            }
            code.end().load(m, false);
            m.run();
            for (int k = 0; k < 8; k++) {
                int u = from + k;
                Expect.vector("uniform " + u, Code.out(m, k), u, -u, 1000 * u, Integer.MIN_VALUE + u);
            }
        }
        m.uniform(31, 9, 8, 7, 6);
        m.run();
        Expect.vector("uniform 31, told again", Code.out(m, 7), 9, 8, 7, 6);
        Expect.end();
    }
}
