public final class Promise11TemporaryTest {
    private static final int MOST = Integer.MAX_VALUE;
    private static final int LEAST = Integer.MIN_VALUE;

    public static void main(String[] args) {
        new Section(Part.TEMPORARY)
                .test("A part of a temporary, likewise", () -> {
                    eachPart();
                    now();
                    noSuchTemporary();
                    noSuchPart();
                })
                .end();
    }

    private static ShaderMachine setsAll() {
        Code code = new Code();
        for (int k = 0; k < 16; k++) {
            code.add(Code.toTemporary(1, k), Code.uniform(k));
        }
        ShaderMachine m = code.end().taken("sets all temporaries", false, 17);
        for (int k = 0; k < 16; k++) {
            m.uniform(k, 10 * k, 10 * k + 1, MOST - k, LEAST + k);
        }
        return m;
    }

    private static void allAreSet(ShaderMachine m) {
        for (int k = 0; k < 16; k++) {
            Expect.vector("temporary " + k, Code.temporary(m, k), 10 * k, 10 * k + 1, MOST - k, LEAST + k);
        }
    }

    private static void eachPart() {
        ShaderMachine m = setsAll();
        m.run();
        allAreSet(m);
        for (int k = 0; k < 8; k++) {
            Expect.vector("out " + k, Code.out(m, k), 0, 0, 0, 0);
        }
    }

    private static void now() {
        ShaderMachine m = setsAll();
        Expect.vector("before a run", Code.temporary(m, 1), 0, 0, 0, 0);
        m.run();
        m.uniform(1, 5, 6, 7, 8);
        allAreSet(m);
        m.run();
        Expect.vector("after the next run", Code.temporary(m, 1), 5, 6, 7, 8);
        Expect.is("another program", m.load(48, 1, false), 1);
        Expect.vector("before its run", Code.temporary(m, 1), 5, 6, 7, 8);
        m.run();
        Expect.vector("after its run", Code.temporary(m, 1), 0, 0, 0, 0);
    }

    private static void noSuchTemporary() {
        ShaderMachine m = setsAll();
        m.run();
        for (int k : new int[] {-1, -16, 16, 17, 31, 32, LEAST, LEAST + 1, MOST, 1 << 30, -(1 << 30)}) {
            for (int part = -1; part <= 4; part++) {
                int p = part;
                Expect.index("temporary(" + k + ", " + p + ")", () -> m.temporary(k, p));
            }
        }
        allAreSet(m);
    }

    private static void noSuchPart() {
        ShaderMachine m = setsAll();
        m.run();
        for (int part : new int[] {-1, -4, 4, 5, LEAST, MOST}) {
            for (int k = 0; k < 16; k++) {
                int temporary = k;
                Expect.index("temporary(" + k + ", " + part + ")", () -> m.temporary(temporary, part));
            }
        }
        allAreSet(m);
    }
}
