public final class Promise02PokeTest {
    private static final int[] WRONG = {-1, 1024, 1025, Integer.MIN_VALUE, Integer.MAX_VALUE};

    public static void main(String[] args) {
        ShaderMachine m = new Code()
                .add(Code.toOut(31, 0), Code.in(0)).end()
                .taken("words of memory", false, 2);
        for (int k : WRONG) {
            Expect.index("poke(" + k + ", 7)", () -> m.poke(k, 7));
        }
        m.poke(100, Integer.MIN_VALUE);
        m.poke(101, Integer.MAX_VALUE);
        m.poke(102, -1);
        m.poke(103, 12);
        m.poke(103, 13);
        readsWords(m, 100, Integer.MIN_VALUE, Integer.MAX_VALUE, -1, 13);
        m.poke(1023, 99);
        m.poke(0, 55);
        readsWords(m, 1023, 99, 0, 0, 0);
        readsWords(m, 1020, 0, 0, 0, 99);
        readsWords(m, -1, 0, 55, 0x7201, 0);
        Expect.end();
    }

    private static void readsWords(ShaderMachine m, int k, int x, int y, int z, int w) {
        m.in(0, k << 16, 0, 0, 0);
        m.run();
        Expect.vector("words from " + k, Code.out(m, 0), x, y, z, w);
    }
}
