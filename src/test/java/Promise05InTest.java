public final class Promise05InTest {
    private static final int MOST = Integer.MAX_VALUE;
    private static final int LEAST = Integer.MIN_VALUE;

    public static void main(String[] args) {
        new Section(Part.IN)
                .test("An in becomes x, y, z, w", Promise05InTest::becomes)
                .test("IndexOutOfBoundsException if there is none such", Promise05InTest::noSuchIn)
                .end();
    }

    private static ShaderMachine copiesAll() {
        Code code = new Code();
        for (int k = 0; k < 8; k++) {
            code.add(Code.toOut(1, k), Code.in(k));
        }
        ShaderMachine m = code.end().taken("copies of all ins", false, 9);
        for (int k = 0; k < 8; k++) {
            m.in(k, k, -k, MOST - k, LEAST + k);
        }
        return m;
    }

    private static void due(ShaderMachine m, int k) {
        Expect.vector("in " + k, Code.out(m, k), k, -k, MOST - k, LEAST + k);
    }

    private static void becomes() {
        ShaderMachine m = copiesAll();
        m.run();
        for (int k = 0; k < 8; k++) {
            due(m, k);
        }
        m.in(7, 4, 3, 2, 1);
        due(m, 7);
        m.run();
        Expect.vector("in 7, told again", Code.out(m, 7), 4, 3, 2, 1);
        due(m, 6);
        m.in(0, MOST, LEAST, 0, -1);
        m.run();
        Expect.vector("in 0, told again", Code.out(m, 0), MOST, LEAST, 0, -1);
        due(m, 1);
    }

    private static void noSuchIn() {
        ShaderMachine m = copiesAll();
        for (int k : new int[] {-1, -8, 8, 9, 15, 16, 31, 32, LEAST, LEAST + 1, MOST, 1 << 30, -(1 << 30)}) {
            Expect.index("in(" + k + ", ..)", () -> m.in(k, 1, 1, 1, 1));
        }
        m.run();
        for (int k = 0; k < 8; k++) {
            due(m, k);
        }
    }
}
