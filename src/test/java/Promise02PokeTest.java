public final class Promise02PokeTest {
    private static final int MOST = Integer.MAX_VALUE;
    private static final int LEAST = Integer.MIN_VALUE;

    public static void main(String[] args) {
        new Section(Part.POKE)
                .test("Word k of memory becomes v", Promise02PokeTest::becomes)
                .test("IndexOutOfBoundsException if there is none", Promise02PokeTest::noSuchWord)
                .end();
    }

    private static void reads(ShaderMachine m, int k, int x, int y, int z, int w) {
        m.in(0, k << 16, 0, 0, 0);
        m.run();
        Expect.vector("words from " + k, Code.out(m, 0), x, y, z, w);
    }

    private static void becomes() {
        ShaderMachine m = Compute.machine(31);
        m.poke(100, LEAST);
        m.poke(101, MOST);
        m.poke(102, -1);
        m.poke(103, 12);
        m.poke(103, 13);
        reads(m, 100, LEAST, MOST, -1, 13);
        reads(m, 97, 0, 0, 0, LEAST);
        m.poke(0, 55);
        m.poke(1023, 99);
        reads(m, 0, 55, Code.in(0), 0, 0);
        reads(m, 1020, 0, 0, 0, 99);
        m.poke(100, 0);
        reads(m, 100, 0, MOST, -1, 13);
        isReadByLoad();
    }

    private static void isReadByLoad() {
        ShaderMachine m = new ShaderMachine();
        m.poke(500, 63);
        Expect.argument("load() of what was poked", () -> m.load(500, 1, false));
        Expect.is("its fault", m.fault(0), 1);
        m.poke(500, 0);
        Expect.is("load() of what was poked again", m.load(500, 1, false), 1);
    }

    private static void noSuchWord() {
        ShaderMachine m = Compute.machine(31);
        m.poke(0, 5);
        m.poke(1023, 6);
        for (int k : new int[] {-1, -2, -1024, 1024, 1025, 2047, 2048, LEAST, LEAST + 1, MOST, MOST - 1, 1 << 30}) {
            Expect.index("poke(" + k + ", 7)", () -> m.poke(k, 7));
        }
        reads(m, 0, 5, Code.in(0), 0, 0);
        reads(m, 1023, 6, 0, 0, 0);
        reads(m, 1020, 0, 0, 0, 6);
    }
}
