public final class Promise10OutTest {
    private static final int MOST = Integer.MAX_VALUE;
    private static final int LEAST = Integer.MIN_VALUE;

    public static void main(String[] args) {
        new Section(Part.OUT)
                .test("A part of an out", Promise10OutTest::eachPart)
                .test("as it is now", Promise10OutTest::now)
                .test("IndexOutOfBoundsException if there is no such out", Promise10OutTest::noSuchOut)
                .test("or part", Promise10OutTest::noSuchPart)
                .end();
    }

    private static ShaderMachine setsAll() {
        Code code = new Code();
        for (int k = 0; k < 8; k++) {
            code.add(Code.toOut(1, k), Code.uniform(k));
        }
        ShaderMachine m = code.end().taken("sets all outs", false, 9);
        for (int k = 0; k < 8; k++) {
            m.uniform(k, 10 * k, 10 * k + 1, MOST - k, LEAST + k);
        }
        return m;
    }

    private static void allAreSet(ShaderMachine m) {
        for (int k = 0; k < 8; k++) {
            Expect.vector("out " + k, Code.out(m, k), 10 * k, 10 * k + 1, MOST - k, LEAST + k);
        }
    }

    private static void eachPart() {
        ShaderMachine m = setsAll();
        m.run();
        allAreSet(m);
        for (int k = 0; k < 16; k++) {
            Expect.vector("temporary " + k, Code.temporary(m, k), 0, 0, 0, 0);
        }
    }

    private static void now() {
        ShaderMachine m = setsAll();
        Expect.vector("before a run", Code.out(m, 1), 0, 0, 0, 0);
        m.run();
        m.uniform(1, 5, 6, 7, 8);
        allAreSet(m);
        m.run();
        Expect.vector("after the next run", Code.out(m, 1), 5, 6, 7, 8);
        Expect.is("another program", m.load(24, 1, false), 1);
        Expect.vector("before its run", Code.out(m, 1), 5, 6, 7, 8);
        m.run();
        Expect.vector("after its run", Code.out(m, 1), 0, 0, 0, 0);
    }

    private static void noSuchOut() {
        ShaderMachine m = setsAll();
        m.run();
        for (int k : new int[] {-1, -8, 8, 9, 15, 16, LEAST, LEAST + 1, MOST, 1 << 30, -(1 << 30)}) {
            for (int part = -1; part <= 4; part++) {
                int p = part;
                Expect.index("out(" + k + ", " + p + ")", () -> m.out(k, p));
            }
        }
        allAreSet(m);
    }

    private static void noSuchPart() {
        ShaderMachine m = setsAll();
        m.run();
        for (int part : new int[] {-1, -4, 4, 5, LEAST, MOST}) {
            for (int k = 0; k < 8; k++) {
                int out = k;
                Expect.index("out(" + k + ", " + part + ")", () -> m.out(out, part));
            }
        }
        allAreSet(m);
    }
}
