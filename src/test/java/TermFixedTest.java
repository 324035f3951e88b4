public final class TermFixedTest {
    private static final int ONE = Compute.ONE;
    private static final int MOST = Compute.MOST;
    private static final int LEAST = Compute.LEAST;

    public static void main(String[] args) {
        new Section(Part.FIXED)
                .test("FIXED numbers are ints, 65,536 times what they stand for", TermFixedTest::standFor)
                .test("sums wrap round", TermFixedTest::sumsWrapRound)
                .test("DOWN is to the next whole number not above", TermFixedTest::down)
                .test("PRODUCT: a * b / 65536, down", TermFixedTest::product)
                .test("of that the lowest 32 bits", TermFixedTest::lowestBits)
                .test("QUOTIENT: 65536 * a / b, down", TermFixedTest::quotient)
                .test("then the nearest that an int holds", TermFixedTest::nearest)
                .test("with b 0: 2^31 - 1 if a is above 0", () -> Compute.dueOfX(13, new int[][] {{0, MOST}}))
                .untested("-2^31 if it is below, 0 if it is 0", "kind 13 alone has a QUOTIENT, that of ONE")
                .test("ONE is 65536", TermFixedTest::one)
                .end();
    }

    private static void standFor() {
        // 1.5 * 2 = 3, 0.25 * -4 = -1, 1 / 4 = 0.25, the root of 2.25 is 1.5
        Compute.due(4, Compute.v(98304, 16384, 0, 0), Compute.v(131072, -262144, 0, 0), Compute.v(196608, -65536, 0, 0));
        Compute.dueOfX(13, new int[][] {{4 * 65536, 16384}});
        Compute.dueOfX(15, new int[][] {{147456, 98304}});
    }

    private static void sumsWrapRound() {
        int[] ends = Compute.v(MOST, LEAST, MOST, LEAST);
        int[] wrapped = Compute.v(LEAST, MOST, -2, 0);
        Compute.due(2, ends, Compute.v(1, -1, MOST, LEAST), wrapped);
        Compute.due(3, ends, Compute.v(-1, 1, -MOST, LEAST), wrapped);
        Compute.due(5, ends, Compute.all(ONE), Compute.v(1, -1, MOST, LEAST), wrapped);
        Compute.due(6, Compute.v(MOST, MOST, 2, 9), Compute.all(ONE), Compute.all(0));
        Compute.due(6, Compute.v(LEAST, -1, 0, 9), Compute.all(ONE), Compute.all(MOST));
        Compute.due(7, Compute.v(MOST, 0, 0, 1), Compute.all(ONE), Compute.all(LEAST));
        Compute.due(7, Compute.all(LEAST), Compute.all(ONE), Compute.all(0));
        // b - c wraps to -2^31 before it is multiplied, and to it c is added
        Compute.due(21, Compute.all(ONE / 2), Compute.all(MOST), Compute.all(-1), Compute.all(-(1 << 30) - 1));
        Compute.due(21, Compute.all(ONE), Compute.all(LEAST), Compute.all(1), Compute.all(LEAST));
        Compute.due(22, Compute.v(0, MOST, ONE, 0), Compute.v(0, -1, ONE, 0), Compute.v(LEAST, 0, 0, 0));
        texturesWrapRound();
    }

    private static void texturesWrapRound() {
        for (int kind = 32; kind <= 33; kind++) {
            ShaderMachine m = Compute.machine(kind);
            m.texture(0, MOST, LEAST, MOST, LEAST);
            m.in(0, 1, -1, MOST, -1);
            m.run();
            Expect.vector("texture by kind " + kind, Code.out(m, 0), LEAST, MOST, kind == 32 ? MOST : -2, LEAST);
        }
    }

    private static void down() {
        Compute.due(4, Compute.v(-1, 1, -ONE - 1, -3), Compute.v(1, ONE - 1, 1, ONE / 2), Compute.v(-1, 0, -2, -2));
        Compute.due(4, Compute.v(-2, 2, 3, -ONE), Compute.v(ONE / 2, ONE / 2, ONE / 2, 1), Compute.v(-1, 1, 1, -1));
        Compute.dueOfX(13, new int[][] {{3 * ONE, 21845}, {-3 * ONE, -21846}, {-4 * ONE, -16384}, {MOST, 2}, {-MOST, -3}});
    }

    private static void product() {
        Compute.due(4, Compute.v(0, ONE, -ONE, 3 * ONE), Compute.v(MOST, MOST, MOST, ONE / 2), Compute.v(0, MOST, -MOST, 98304));
        Compute.due(4, Compute.v(LEAST, LEAST, 1, -1), Compute.v(ONE, 1, 1, -1), Compute.v(LEAST, -32768, 0, 0));
        Compute.due(4, Compute.v(MOST, MOST, -1, 65535), Compute.v(1, -1, 65537, 65535), Compute.v(32767, -32768, -2, 65534));
    }

    private static void lowestBits() {
        // 2^62 - 2^32 + 1, 2^62, -2^62 + 2^31 and 2^31, before they are divided
        Compute.due(4, Compute.v(MOST, LEAST, LEAST, LEAST), Compute.v(MOST, LEAST, MOST, -ONE), Compute.v(-65536, 0, 32768, LEAST));
        Compute.due(4, Compute.v(1 << 30, 1 << 30, 1 << 24, 3 << 23), Compute.v(4 * ONE, 2 * ONE, 1 << 24, 1 << 23), Compute.v(0, LEAST, 0, -(1 << 30)));
        Compute.due(4, Compute.all(0x12345678), Compute.all(0x12345678), Compute.all((int) (0x12345678L * 0x12345678L / 65536)));
    }

    private static void quotient() {
        Compute.dueOfX(13, new int[][] {
            {ONE, ONE}, {-ONE, -ONE}, {2 * ONE, ONE / 2}, {ONE / 2, 2 * ONE}, {3, 1431655765}, {-3, -1431655766},
            {7, 613566756}, {-7, -613566757}, {4, 1 << 30}, {-4, -(1 << 30)}, {LEAST, -2}, {1 << 30, 4}, {ONE + 1, 65535},
        });
    }

    private static void nearest() {
        // 2^32, 2^31, -2^32 and -2^31, the last of which an int holds
        Compute.dueOfX(13, new int[][] {{1, MOST}, {2, MOST}, {-1, LEAST}, {-2, LEAST}});
    }

    private static void one() {
        Compute.due(18, Compute.v(5, 5, -1, 0), Compute.v(5, 6, -1, 0), Compute.v(65536, 0, 65536, 65536));
        ShaderMachine m = new Code().add(Code.toOut(1, 0) | 1 << 16, Code.in(0)).end().taken("kept within", false, 2);
        m.in(0, 65535, 65536, 65537, MOST);
        m.run();
        Expect.vector("kept within 0 .. ONE", Code.out(m, 0), 65535, 65536, 65536, 65536);
    }
}
