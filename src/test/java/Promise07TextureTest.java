public final class Promise07TextureTest {
    public static void main(String[] args) {
        Code code = new Code();
        for (int k = 0; k < 4; k++) {
            code.add(Code.numbered(Code.toOut(32, k), k), Code.in(0));
            code.add(Code.numbered(Code.toOut(33, 4 + k), k), Code.in(0));
        }
        ShaderMachine m = code.end().taken("all textures", false, 9);
        for (int k = 0; k < 4; k++) {
            m.texture(k, 100 * k, 200 * k, 300 * k, Integer.MAX_VALUE - k);
        }
        for (int k : new int[] {-1, 4, 5, Integer.MIN_VALUE, Integer.MAX_VALUE, 1 << 30}) {
            Expect.index("texture(" + k + ", ..)", () -> m.texture(k, 1, 1, 1, 1));
        }
        m.in(0, 1, -2, 3, 4);
        m.run();
        for (int k = 0; k < 4; k++) {
            int w = Integer.MAX_VALUE - k;
            Expect.vector("texture " + k, Code.out(m, k), 100 * k + 1, 200 * k - 2, 300 * k, w);
            Expect.vector("texture " + k + " at a level", Code.out(m, 4 + k), 100 * k + 1, 200 * k - 2, 300 * k + 3, w);
        }
        m.texture(3, Integer.MAX_VALUE, Integer.MIN_VALUE, Integer.MAX_VALUE, 0);
        m.run();
        Expect.vector("sums wrap round", Code.out(m, 7), Integer.MIN_VALUE, Integer.MAX_VALUE - 1, Integer.MIN_VALUE + 2, 0);
        Expect.end();
    }
}
