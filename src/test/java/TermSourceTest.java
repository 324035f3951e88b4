public final class TermSourceTest {
    private static final int MOST = Integer.MAX_VALUE;
    private static final int LEAST = Integer.MIN_VALUE;

    public static void main(String[] args) {
        new Section(Part.SOURCE)
                .test("A SOURCE: bits 0 and 1 a file (0 temporaries, 1 ins, 2 uniforms", TermSourceTest::file)
                .test("3: nothing, all parts 0)", TermSourceTest::nothing)
                .test("2 to 6 a number in it", TermSourceTest::number)
                .test("7 to 14 two bits for each part, x first: which part of that vector it is", TermSourceTest::parts)
                .test("15 whether its parts are taken less than 0 (0 - part)", TermSourceTest::lessThanZero)
                .end();
    }

    /** A program that copies this source to out 0, behind one that sets temporary 2. */
    private static ShaderMachine copies(int source) {
        ShaderMachine m = new Code()
                .add(Code.toTemporary(3, 2), Code.source(3, 0, 0, false), Code.in(1))
                .add(Code.toOut(1, 0), source)
                .end().taken("source " + source, false, 3);
        m.in(1, 100, 200, 300, 400);
        return m;
    }

    private static void file() {
        int[] due = {-100, 10, 1000, 0};
        for (int file = 0; file < 4; file++) {
            ShaderMachine m = copies(Code.source(file, file == 3 ? 0 : 2, Code.XYZW, false));
            m.in(2, 10, 20, 30, 40);
            m.uniform(2, 1000, 2000, 3000, 4000);
            m.run();
            int d = due[file];
            Expect.vector("file " + file, Code.out(m, 0), d, 2 * d, 3 * d, 4 * d);
        }
    }

    private static void nothing() {
        for (int bits : new int[] {3, 3 | Code.WZYX << 7, 3 | 0xFF << 7, 3 | 1 << 15, 3 | 0x1FF << 7}) {
            ShaderMachine m = copies(bits);
            m.in(0, 1, 1, 1, 1);
            m.uniform(0, 1, 1, 1, 1);
            m.run();
            Expect.vector("nothing " + bits, Code.out(m, 0), 0, 0, 0, 0);
        }
        for (int bit = 2; bit <= 6; bit++) {
            new Code().add(Code.toOut(1, 0), 3 | 1 << bit).end().refused("file 3 with bit " + bit, false, 3, 0);
        }
    }

    private static void number() {
        for (int bit = 2; bit <= 6; bit++) {
            ShaderMachine m = copies(Code.XYZW << 7 | 2 | 1 << bit);
            int k = 1 << (bit - 2);
            m.uniform(k, k, -k, MOST, LEAST);
            m.run();
            Expect.vector("uniform " + k, Code.out(m, 0), k, -k, MOST, LEAST);
        }
        ShaderMachine m = copies(Code.uniform(31));
        m.uniform(31, 1, 2, 3, 4);
        m.run();
        Expect.vector("uniform 31", Code.out(m, 0), 1, 2, 3, 4);
    }

    private static void parts() {
        for (int picks = 0; picks < 256; picks++) {
            ShaderMachine m = new Code().add(Code.toOut(1, 0), Code.source(1, 0, picks, false)).end().taken("picks", false, 2);
            m.in(0, 10, 11, 12, 13);
            m.run();
            Expect.vector("picks " + picks, Code.out(m, 0),
                    10 + picks % 4, 10 + picks / 4 % 4, 10 + picks / 16 % 4, 10 + picks / 64);
        }
    }

    private static void lessThanZero() {
        ShaderMachine m = new Code().add(Code.toOut(1, 0), Code.source(1, 0, Code.XYZW, true)).end().taken("0 - in", false, 2);
        int[][] cases = {{1, -1}, {-1, 1}, {0, 0}, {MOST, -MOST}, {-MOST, MOST}, {LEAST, LEAST}};
        for (int[] c : cases) {
            m.in(0, c[0], 7, c[0], c[0]);
            m.run();
            Expect.vector("0 - " + c[0], Code.out(m, 0), c[1], -7, c[1], c[1]);
        }
        eachSourceByItself();
    }

    private static void eachSourceByItself() {
        for (int negated = 0; negated < 8; negated++) {
            int[] sources = new int[3];
            int[] sign = new int[3];
            for (int i = 0; i < 3; i++) {
                boolean isNegated = (negated >> i & 1) != 0;
                sources[i] = Code.source(1, i, Code.WZYX, isNegated);
                sign[i] = isNegated ? -1 : 1;
            }
            ShaderMachine m = new Code().add(Code.toOut(5, 0), sources).end().taken("a * b + c", false, 2);
            m.in(0, Code.ONE, 2 * Code.ONE, 3 * Code.ONE, 4 * Code.ONE);
            m.in(1, 10, 20, 30, 40);
            m.in(2, 1, 2, 3, 4);
            m.run();
            int ab = sign[0] * sign[1];
            Expect.vector("negated " + negated, Code.out(m, 0),
                    ab * 160 + sign[2] * 4, ab * 90 + sign[2] * 3, ab * 40 + sign[2] * 2, ab * 10 + sign[2]);
        }
    }
}
