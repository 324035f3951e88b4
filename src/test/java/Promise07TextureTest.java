public final class Promise07TextureTest {
    private static final int MOST = Integer.MAX_VALUE;
    private static final int LEAST = Integer.MIN_VALUE;

    public static void main(String[] args) {
        new Section(Part.TEXTURE)
                .test("A texture's vector, likewise", () -> {
                    becomes();
                    noSuchTexture();
                })
                .end();
    }

    private static ShaderMachine readsAll() {
        Code code = new Code();
        for (int k = 0; k < 4; k++) {
            code.add(Code.numbered(Code.toOut(32, k), k), Code.in(0));
            code.add(Code.numbered(Code.toOut(33, 4 + k), k), Code.in(0));
        }
        ShaderMachine m = code.end().taken("all textures", false, 9);
        for (int k = 0; k < 4; k++) {
            m.texture(k, 100 * k, 200 * k, 300 * k, MOST - k);
        }
        m.in(0, 1, -2, 3, 4);
        return m;
    }

    private static void due(ShaderMachine m, int k) {
        Expect.vector("texture " + k, Code.out(m, k), 100 * k + 1, 200 * k - 2, 300 * k, MOST - k);
        Expect.vector("texture " + k + " at level 3", Code.out(m, 4 + k), 100 * k + 1, 200 * k - 2, 300 * k + 3, MOST - k);
    }

    private static void becomes() {
        ShaderMachine m = readsAll();
        m.run();
        for (int k = 0; k < 4; k++) {
            due(m, k);
        }
        m.texture(3, MOST, LEAST, MOST, LEAST);
        due(m, 3);
        m.run();
        Expect.vector("texture 3, told again", Code.out(m, 7), LEAST, MOST - 1, LEAST + 2, LEAST);
        due(m, 2);
    }

    private static void noSuchTexture() {
        ShaderMachine m = readsAll();
        for (int k : new int[] {-1, -4, 4, 5, 7, 8, LEAST, LEAST + 1, MOST, 1 << 30, -(1 << 30)}) {
            Expect.index("texture(" + k + ", ..)", () -> m.texture(k, 1, 1, 1, 1));
        }
        m.run();
        for (int k = 0; k < 4; k++) {
            due(m, k);
        }
    }
}
