/** Each kind of instruction, each way to read a source and to set a target. */
public final class KindsTest {
    private static final int ONE = Code.ONE;
    private static final int MOST = Integer.MAX_VALUE;
    private static final int LEAST = Integer.MIN_VALUE;

    public static void main(String[] args) {
        sums();
        products();
        unary();
        reciprocals();
        roots();
        comparisons();
        choices();
        cross();
        bits();
        uniforms();
        words();
        textures();
        sources();
        targets();
        Expect.end();
    }

    private static int[] v(int x, int y, int z, int w) {
        return new int[] {x, y, z, w};
    }

    private static int[] all(int x) {
        return v(x, x, x, x);
    }

    private static int[] answer(int kind, int[] a, int[] b, int[] c) {
        int[] sources = new int[Code.sources(kind)];
        for (int i = 0; i < sources.length; i++) {
            sources[i] = Code.in(i);
        }
        ShaderMachine m = new Code().add(Code.toOut(kind, 0), sources).end().taken("kind " + kind, false, 2);
        m.in(0, a[0], a[1], a[2], a[3]);
        m.in(1, b[0], b[1], b[2], b[3]);
        m.in(2, c[0], c[1], c[2], c[3]);
        Expect.is("run() of kind " + kind, m.run(), 2);
        return Code.out(m, 0);
    }

    private static void due(int kind, int[] a, int[] b, int[] c, int[] due) {
        Expect.vector("kind " + kind, answer(kind, a, b, c), due[0], due[1], due[2], due[3]);
    }

    private static void due(int kind, int[] a, int[] b, int[] due) {
        due(kind, a, b, all(77), due);
    }

    private static void due(int kind, int[] a, int[] due) {
        due(kind, a, all(55), all(77), due);
    }

    private static void sums() {
        due(1, v(1, MOST, LEAST, -9), v(1, MOST, LEAST, -9));
        due(2, v(1, MOST, LEAST, -9), v(5, 1, -1, 4), v(6, LEAST, MOST, -5));
        due(3, v(1, MOST, LEAST, -9), v(5, -1, 1, 4), v(-4, LEAST, MOST, -13));
        due(8, v(1, MOST, LEAST, -9), v(5, LEAST, MOST, -10), v(1, LEAST, LEAST, -10));
        due(9, v(1, MOST, LEAST, -9), v(5, LEAST, MOST, -10), v(5, MOST, MOST, -9));
    }

    private static void products() {
        due(4, v(3 * ONE, -1, 1, MOST), v(ONE / 2, 1, ONE - 1, MOST), v(3 * ONE / 2, -1, 0, -65536));
        due(4, v(LEAST, LEAST, LEAST, -3), v(LEAST, ONE, -ONE, ONE / 2), v(0, LEAST, LEAST, -2));
        due(5, v(3 * ONE, -1, MOST, ONE), v(ONE / 2, 1, ONE, ONE), v(1, 2, 1, -1), v(3 * ONE / 2 + 1, 1, LEAST, ONE - 1));
        // each product goes down by itself, before they are added
        due(6, v(-1, -1, -1, -1), all(1), all(-3));
        due(7, v(-1, -1, -1, -1), all(1), all(-4));
        due(6, v(ONE, 2 * ONE, 3 * ONE, 4 * ONE), v(1, 10, 100, 1000), all(321));
        due(7, v(ONE, 2 * ONE, 3 * ONE, 4 * ONE), v(1, 10, 100, 1000), all(4321));
        due(7, all(ONE), v(MOST, 1, 0, 0), all(LEAST));
        due(6, all(ONE / 2), all(1), all(0));
    }

    private static void unary() {
        due(10, v(5, -5, LEAST, -MOST), v(5, 5, MOST, MOST));
        due(10, v(0, MOST, -1, LEAST + 1), v(0, MOST, 1, MOST));
        due(11, v(ONE + 5, -1, ONE - 1, MOST), v(ONE, -ONE, 0, 0x7FFF0000));
        due(12, v(ONE + 5, -1, ONE - 1, LEAST), v(5, 0xFFFF, 0xFFFF, 0));
        due(39, v(ONE + 5, -1, LEAST, MOST), v(1, -1, -32768, 32767));
        due(40, v(1, -1, 0x12345, 32768), v(ONE, -ONE, 0x23450000, LEAST));
    }

    private static void reciprocals() {
        int[][] cases = {
            {ONE, ONE}, {2 * ONE, ONE / 2}, {-ONE, -ONE}, {3 * ONE, 21845}, {-3 * ONE, -21846}, {0, MOST},
            {1, MOST}, {2, MOST}, {3, 1431655765}, {-1, LEAST}, {-2, LEAST}, {-3, -1431655766},
            {MOST, 2}, {LEAST, -2}, {-MOST, -3}, {LEAST + 1, -3},
        };
        for (int[] c : cases) {
            due(13, v(c[0], 9, 8, 7), all(c[1]));
        }
    }

    private static void roots() {
        int[][] reciprocals = {
            {ONE, ONE}, {4 * ONE, ONE / 2}, {ONE / 4, 2 * ONE}, {1, 1 << 24}, {2, 11863283}, {3, 9686330},
            {MOST, 362}, {0, MOST}, {-1, MOST}, {LEAST, MOST}, {2 * ONE, 46340},
        };
        for (int[] c : reciprocals) {
            due(14, v(c[0], 9, 8, 7), all(c[1]));
        }
        int[][] roots = {
            {ONE, ONE}, {4 * ONE, 2 * ONE}, {2 * ONE, 92681}, {1, 256}, {2, 362}, {3, 443}, {0, 0}, {-1, 0},
            {LEAST, 0}, {MOST, 11863283},
        };
        for (int[] c : roots) {
            due(15, v(c[0], 9, 8, 7), all(c[1]));
        }
    }

    private static void comparisons() {
        int[] a = v(1, -1, LEAST, 5);
        int[] b = v(2, -1, MOST, 4);
        due(16, a, b, v(ONE, 0, ONE, 0));
        due(17, a, b, v(0, ONE, 0, ONE));
        due(18, a, b, v(0, ONE, 0, 0));
        due(19, a, b, v(ONE, 0, ONE, ONE));
    }

    private static void choices() {
        due(20, v(0, 1, -1, LEAST), v(1, 2, 3, 4), v(5, 6, 7, 8), v(1, 2, 7, 8));
        due(21, v(0, ONE, ONE / 2, -ONE), v(10, 10, 11, 10), v(20, 20, 20, 20), v(20, 10, 15, 30));
        due(21, v(ONE, ONE / 2, 2 * ONE, ONE), v(MOST, MOST, 3, LEAST), v(-1, -1, 1, 1), v(MOST, -(1 << 30) - 1, 5, LEAST));
    }

    private static void cross() {
        due(22, v(ONE, 0, 0, 9), v(0, ONE, 0, 9), v(0, 0, ONE, 0));
        due(22, v(2 * ONE, 3 * ONE, 5 * ONE, 9), v(7, 11, 13, 9), v(39 - 55, 35 - 26, 22 - 21, 0));
        due(22, v(0, -1, 1, 0), v(0, 1, 1, 0), v(-1, 0, 0, 0));
    }

    private static void bits() {
        int[] a = v(0b1100, -1, LEAST, 0x12345678);
        int[] b = v(0b1010, 0, MOST, 0xFF00FF);
        due(23, a, b, v(0b1000, 0, 0, 0x340078));
        due(24, a, b, v(0b1110, -1, -1, 0x12FF56FF));
        due(25, a, b, v(0b0110, -1, -1, 0x12CB5687));
        due(26, a, v(~0b1100, 0, MOST, 0xEDCBA987));
        int[] by = v(33, 31, -31, ONE + 4);
        due(27, v(3, 3, 3, 3), by, v(6, LEAST, 6, 48));
        due(28, v(-3, LEAST, -8, 256), by, v(-2, -1, -4, 16));
        due(29, v(-3, LEAST, -8, 256), by, v(0x7FFFFFFE, 1, 0x7FFFFFFC, 16));
    }

    private static void uniforms() {
        ShaderMachine m = new Code().add(Code.toOut(30, 0), Code.in(0)).end().taken("a uniform", false, 2);
        for (int k = 0; k < 32; k++) {
            m.uniform(k, k + 1, k + 2, k + 3, k + 4);
        }
        for (int k = 0; k < 32; k++) {
            m.in(0, k * ONE + ONE - 1, 3 * ONE, 4 * ONE, 5 * ONE);
            m.run();
            Expect.vector("uniform " + k, Code.out(m, 0), k + 1, k + 2, k + 3, k + 4);
        }
        for (int x : new int[] {-1, -ONE, 32 * ONE, MOST, LEAST}) {
            m.in(0, x, 0, 0, 0);
            m.run();
            Expect.vector("no uniform", Code.out(m, 0), 0, 0, 0, 0);
        }
    }

    private static void words() {
        ShaderMachine m = new Code().add(Code.toOut(31, 0), Code.in(0)).end().taken("words", false, 2);
        for (int k : new int[] {0, 1, 2, 3, 4, 1020, 1021, 1022, 1023}) {
            m.poke(k, 5000 + k);
        }
        words(m, 0, 5000, 5001, 5002, 5003);
        words(m, ONE - 1, 5000, 5001, 5002, 5003);
        words(m, ONE, 5001, 5002, 5003, 5004);
        words(m, 1020 * ONE, 6020, 6021, 6022, 6023);
        words(m, 1021 * ONE, 6021, 6022, 6023, 0);
        words(m, 1023 * ONE, 6023, 0, 0, 0);
        words(m, 1024 * ONE, 0, 0, 0, 0);
        words(m, -1, 0, 5000, 5001, 5002);
        words(m, -3 * ONE, 0, 0, 0, 5000);
        words(m, -4 * ONE, 0, 0, 0, 0);
        words(m, MOST, 0, 0, 0, 0);
        words(m, LEAST, 0, 0, 0, 0);
    }

    private static void words(ShaderMachine m, int k, int x, int y, int z, int w) {
        m.in(0, k, 99, 99, 99);
        m.run();
        Expect.vector("words at " + k, Code.out(m, 0), x, y, z, w);
    }

    private static void textures() {
        due(32, v(1, 2, 3, 4), v(1, 2, 0, 0));
        due(33, v(1, 2, 3, 4), v(1, 2, 3, 0));
    }

    private static void sources() {
        int[][] cases = {
            {Code.source(1, 0, Code.WZYX, false), 4, LEAST, 2, 1},
            {Code.source(1, 0, Code.XXXX, false), 1, 1, 1, 1},
            {Code.source(1, 0, 0b01_10_00_11, false), 4, 1, LEAST, 2},
            {Code.source(1, 0, Code.XYZW, true), -1, -2, LEAST, -4},
            {Code.source(1, 0, Code.WZYX, true), -4, LEAST, -2, -1},
            {Code.source(3, 0, Code.WZYX, true), 0, 0, 0, 0},
            {Code.source(3, 0, Code.XYZW, false), 0, 0, 0, 0},
        };
        for (int[] c : cases) {
            ShaderMachine m = new Code().add(Code.toOut(1, 0), c[0]).end().taken("a source", false, 2);
            m.in(0, 1, 2, LEAST, 4);
            m.run();
            Expect.vector("source " + c[0], Code.out(m, 0), c[1], c[2], c[3], c[4]);
        }
        negatedSources();
        ShaderMachine m = new Code()
                .add(Code.toTemporary(1, 3), Code.in(0))
                .add(Code.toTemporary(1, 3), Code.source(0, 3, 0b00_11_10_01, false))
                .add(Code.toTemporary(22, 3), Code.temporary(3), Code.in(0))
                .end().taken("sources that are the target", false, 4);
        m.in(0, ONE, 2 * ONE, 3 * ONE, 4 * ONE);
        m.run();
        // (2, 3, 4) with (1, 2, 3)
        Expect.vector("read before it is set", Code.temporary(m, 3), ONE, -2 * ONE, ONE, 0);
    }

    private static void negatedSources() {
        for (int negated = 0; negated < 8; negated++) {
            int[] sources = new int[3];
            int[] sign = new int[3];
            for (int i = 0; i < 3; i++) {
                boolean isNegated = (negated >> i & 1) != 0;
                sources[i] = Code.source(1, i, Code.WZYX, isNegated);
                sign[i] = isNegated ? -1 : 1;
            }
            ShaderMachine m = new Code().add(Code.toOut(5, 0), sources).end().taken("a * b + c", false, 2);
            m.in(0, ONE, 2 * ONE, 3 * ONE, 4 * ONE);
            m.in(1, 10, 20, 30, 40);
            m.in(2, 1, 2, 3, 4);
            m.run();
            int ab = sign[0] * sign[1];
            Expect.vector("negated " + negated, Code.out(m, 0),
                    ab * 160 + sign[2] * 4, ab * 90 + sign[2] * 3, ab * 40 + sign[2] * 2, ab * 10 + sign[2]);
        }
    }

    private static void targets() {
        for (int parts = 1; parts < 16; parts++) {
            ShaderMachine m = new Code()
                    .add(Code.toOut(1, 5), Code.in(0))
                    .add(1 | 1 << 6 | 5 << 8 | parts << 12 | 1 << 16, Code.in(1))
                    .add(1 | 15 << 8 | parts << 12, Code.in(1))
                    .end().taken("some parts", false, 4);
            m.in(0, 1, 2, 3, 4);
            m.in(1, -1, ONE, ONE + 1, ONE - 1);
            m.run();
            Expect.vector("kept within, parts " + parts, Code.out(m, 5),
                    set(parts, 0, 0, 1), set(parts, 1, ONE, 2), set(parts, 2, ONE, 3), set(parts, 3, ONE - 1, 4));
            Expect.vector("not kept within, parts " + parts, Code.temporary(m, 15),
                    set(parts, 0, -1, 0), set(parts, 1, ONE, 0), set(parts, 2, ONE + 1, 0), set(parts, 3, ONE - 1, 0));
        }
    }

    private static int set(int parts, int part, int then, int otherwise) {
        return (parts >> part & 1) != 0 ? then : otherwise;
    }
}
