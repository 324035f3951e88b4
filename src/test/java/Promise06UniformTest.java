public final class Promise06UniformTest {
    private static final int MOST = Integer.MAX_VALUE;
    private static final int LEAST = Integer.MIN_VALUE;

    public static void main(String[] args) {
        new Section(Part.UNIFORM)
                .test("A uniform, likewise", () -> {
                    becomes();
                    noSuchUniform();
                })
                .end();
    }

    private static ShaderMachine toldAll() {
        ShaderMachine m = new ShaderMachine();
        for (int k = 0; k < 32; k++) {
            m.uniform(k, k, -k, 1000 * k, LEAST + k);
        }
        return m;
    }

    private static void allAreAsTold(ShaderMachine m) {
        for (int from = 0; from < 32; from += 8) {
            Code code = new Code();
            for (int k = 0; k < 8; k++) {
                code.add(Code.toOut(1, k), Code.uniform(from + k));
            }
            code.end().load(m, false);
            m.run();
            for (int k = 0; k < 8; k++) {
                int u = from + k;
                Expect.vector("uniform " + u, Code.out(m, k), u, -u, 1000 * u, LEAST + u);
            }
        }
    }

    private static void becomes() {
        ShaderMachine m = toldAll();
        allAreAsTold(m);
        m.uniform(31, MOST, LEAST, 7, 6);
        Expect.vector("before the next run", Code.out(m, 7), 31, -31, 31000, LEAST + 31);
        m.run();
        Expect.vector("uniform 31, told again", Code.out(m, 7), MOST, LEAST, 7, 6);
        Expect.vector("uniform 30, as before", Code.out(m, 6), 30, -30, 30000, LEAST + 30);
    }

    private static void noSuchUniform() {
        ShaderMachine m = toldAll();
        for (int k : new int[] {-1, -32, 32, 33, 63, 64, LEAST, LEAST + 1, MOST, 1 << 30, -(1 << 30)}) {
            Expect.index("uniform(" + k + ", ..)", () -> m.uniform(k, 1, 1, 1, 1));
        }
        allAreAsTold(m);
    }
}
