public final class TermVectorTest {
    private static final int MOST = Integer.MAX_VALUE;
    private static final int LEAST = Integer.MIN_VALUE;
    private static final int UNIT = Code.ONE;

    public static void main(String[] args) {
        new Section(Part.VECTOR)
                .test("A VECTOR has the PARTS x, y, z, w (0 .. 3)", TermVectorTest::parts)
                .test("There are 16 TEMPORARIES", TermVectorTest::temporaries)
                .test("8 INS", TermVectorTest::ins)
                .test("8 OUTS", TermVectorTest::outs)
                .test("32 UNIFORMS", TermVectorTest::uniforms)
                .test("all vectors", TermVectorTest::filesAreApart)
                .test("and a MEMORY of 1024 words", TermVectorTest::memory)
                .test("ints, all 0 at first", TermVectorTest::memoryAtFirst)
                .test("a word that there isn't is read as 0", TermVectorTest::noSuchWord)
                .test("TEXTURES are 0 .. 3", TermVectorTest::textures)
                .test("each has a vector that is told", TermVectorTest::texturesAreTold)
                .test("read at s, t, level l, it gives that vector and (s, t, l, 0), added", TermVectorTest::textureIsRead)
                .end();
    }

    private static void parts() {
        ShaderMachine m = new Code().add(Code.toOut(1, 0), Code.in(0)).add(Code.toTemporary(1, 0), Code.in(0)).end()
                .taken("copies", false, 3);
        m.in(0, 10, 11, 12, 13);
        m.run();
        for (int part = 0; part < 4; part++) {
            Expect.is("out(0, " + part + ")", m.out(0, part), 10 + part);
            Expect.is("temporary(0, " + part + ")", m.temporary(0, part), 10 + part);
        }
        for (int part : new int[] {-1, 4}) {
            Expect.index("out(0, " + part + ")", () -> m.out(0, part));
            Expect.index("temporary(0, " + part + ")", () -> m.temporary(0, part));
        }
    }

    private static void temporaries() {
        Code code = new Code();
        for (int k = 0; k < 16; k++) {
            code.add(Code.toTemporary(2, k), Code.temporary(k == 0 ? 0 : k - 1), Code.in(0));
        }
        ShaderMachine m = code.end().taken("each from the one before", false, 17);
        m.in(0, 1, -1, 0, 2);
        m.run();
        for (int k = 0; k < 16; k++) {
            Expect.vector("temporary " + k, Code.temporary(m, k), k + 1, -k - 1, 0, 2 * k + 2);
        }
        Expect.index("temporary(16, 0)", () -> m.temporary(16, 0));
        new Code().add(Code.toOut(1, 0), Code.temporary(16)).end().refused("source: temporary 16", false, 3, 0);
    }

    private static void ins() {
        Code code = new Code();
        for (int k = 0; k < 8; k++) {
            code.add(Code.toTemporary(1, k), Code.in(k));
        }
        ShaderMachine m = code.end().taken("each in", false, 9);
        for (int k = 0; k < 8; k++) {
            m.in(k, k, 10 + k, 20 + k, 30 + k);
        }
        m.run();
        for (int k = 0; k < 8; k++) {
            Expect.vector("in " + k, Code.temporary(m, k), k, 10 + k, 20 + k, 30 + k);
        }
        Expect.index("in(8, ..)", () -> m.in(8, 0, 0, 0, 0));
        new Code().add(Code.toOut(1, 0), Code.in(8)).end().refused("source: in 8", false, 3, 0);
    }

    private static void outs() {
        Code code = new Code();
        for (int k = 0; k < 8; k++) {
            code.add(Code.toOut(2, k), Code.in(0), Code.temporary(0));
            code.add(Code.toTemporary(2, 0), Code.in(0), Code.temporary(0));
        }
        ShaderMachine m = code.end().taken("each out", false, 17);
        m.in(0, 1, 2, 3, -4);
        m.run();
        for (int k = 0; k < 8; k++) {
            Expect.vector("out " + k, Code.out(m, k), k + 1, 2 * k + 2, 3 * k + 3, -4 * k - 4);
        }
        Expect.index("out(8, 0)", () -> m.out(8, 0));
        new Code().add(Code.toOut(1, 8), Code.in(0)).end().refused("target: out 8", false, 2, 0);
    }

    private static void uniforms() {
        ShaderMachine m = new ShaderMachine();
        for (int k = 0; k < 32; k++) {
            m.uniform(k, k, -k, k * k, 1);
        }
        Code code = new Code();
        for (int k = 0; k < 32; k++) {
            code.add(Code.toTemporary(k < 16 ? 1 : 3, k % 16), Code.uniform(k), k < 16 ? 0 : Code.temporary(k - 16));
        }
        Expect.is("load()", code.end().load(m, false), 33);
        m.run();
        for (int k = 0; k < 16; k++) {
            Expect.vector("uniform " + (16 + k) + " - uniform " + k, Code.temporary(m, k), 16, -16, (16 + k) * (16 + k) - k * k, 0);
        }
        Expect.index("uniform(32, ..)", () -> m.uniform(32, 0, 0, 0, 0));
    }

    /** Vectors of the same number in different files, and a texture, hold what they were told. */
    private static void filesAreApart() {
        ShaderMachine m = new Code()
                .add(Code.toTemporary(2, 0), Code.in(0), Code.uniform(0))
                .add(Code.toOut(2, 0), Code.temporary(0), Code.temporary(0))
                .add(Code.toOut(1, 1), Code.in(0))
                .add(Code.toOut(1, 2), Code.uniform(0))
                .add(Code.toOut(32, 3), Code.source(3, 0, 0, false))
                .end().taken("files", false, 6);
        m.in(0, 1, 2, 3, 4);
        m.uniform(0, 10, 20, 30, 40);
        m.texture(0, 100, 200, 300, 400);
        m.run();
        Expect.vector("temporary 0", Code.temporary(m, 0), 11, 22, 33, 44);
        Expect.vector("out 0", Code.out(m, 0), 22, 44, 66, 88);
        Expect.vector("in 0", Code.out(m, 1), 1, 2, 3, 4);
        Expect.vector("uniform 0", Code.out(m, 2), 10, 20, 30, 40);
        Expect.vector("texture 0", Code.out(m, 3), 100, 200, 300, 400);
    }

    private static void memory() {
        ShaderMachine m = Compute.machine(31);
        m.poke(1023, LEAST);
        m.poke(1022, MOST);
        m.poke(0, 5);
        Expect.index("poke(1024, 1)", () -> m.poke(1024, 1));
        Expect.index("poke(-1, 1)", () -> m.poke(-1, 1));
        words(m, 1020, 0, 0, MOST, LEAST);
        words(m, 0, 5, Code.in(0), 0, 0);
    }

    private static void words(ShaderMachine m, int k, int x, int y, int z, int w) {
        m.in(0, k * UNIT, 0, 0, 0);
        m.run();
        Expect.vector("words from " + k, Code.out(m, 0), x, y, z, w);
    }

    /** A program at either end of memory ORs all the words that are not its own. */
    private static void memoryAtFirst() {
        Code code = new Code()
                .add(Code.toTemporary(1, 0), Code.uniform(0))
                .loop(250)
                .add(Code.toTemporary(31, 1), Code.temporary(0))
                .add(Code.toOut(24, 0), Code.temporary(2), Code.temporary(1))
                .add(Code.toTemporary(24, 2), Code.temporary(2), Code.temporary(1))
                .add(Code.toTemporary(2, 0), Code.temporary(0), Code.uniform(1))
                .endLoop().end();
        int words = 3 * code.many();
        atFirst(code, 0, words);
        atFirst(code, 1024 - words, 1024 - words - 4 * 250);
    }

    private static void atFirst(Code code, int from, int first) {
        ShaderMachine m = new ShaderMachine();
        code.poke(m, from);
        Expect.is("load()", m.load(from, code.many(), false), 1253);
        m.uniform(0, first * UNIT, 0, 0, 0);
        m.uniform(1, 4 * UNIT, 0, 0, 0);
        m.run();
        Expect.vector("words from " + first + " on", Code.out(m, 0), 0, 0, 0, 0);
        m.poke(first + 500, 3);
        m.run();
        int[] out = Code.out(m, 0);
        Expect.is("with one word poked", out[0] | out[1] | out[2] | out[3], 3);
    }

    private static void noSuchWord() {
        ShaderMachine m = Compute.machine(31);
        for (int k : new int[] {0, 1, 2, 3, 1021, 1022, 1023}) {
            m.poke(k, 5000 + k);
        }
        words(m, 1021, 6021, 6022, 6023, 0);
        words(m, 1022, 6022, 6023, 0, 0);
        words(m, 1023, 6023, 0, 0, 0);
        words(m, 1024, 0, 0, 0, 0);
        words(m, 1025, 0, 0, 0, 0);
        words(m, 2048, 0, 0, 0, 0);
        words(m, 32767, 0, 0, 0, 0);
        words(m, -1, 0, 5000, 5001, 5002);
        words(m, -2, 0, 0, 5000, 5001);
        words(m, -3, 0, 0, 0, 5000);
        words(m, -4, 0, 0, 0, 0);
        words(m, -1024, 0, 0, 0, 0);
        words(m, -32768, 0, 0, 0, 0);
    }

    private static void textures() {
        ShaderMachine m = new ShaderMachine();
        m.texture(0, 1, 1, 1, 1);
        m.texture(3, 1, 1, 1, 1);
        Expect.index("texture(-1, ..)", () -> m.texture(-1, 1, 1, 1, 1));
        Expect.index("texture(4, ..)", () -> m.texture(4, 1, 1, 1, 1));
        for (int kind = 32; kind <= 33; kind++) {
            int first = Code.toOut(kind, 0);
            new Code().add(Code.numbered(first, 3), Code.in(0)).end().taken("texture 3", false, 2);
            new Code().add(Code.numbered(first, 4), Code.in(0)).end().refused("texture 4", false, 4, 0);
        }
    }

    private static void texturesAreTold() {
        Code code = new Code();
        for (int k = 0; k < 4; k++) {
            code.add(Code.numbered(Code.toOut(32, k), k), Code.source(3, 0, 0, false));
        }
        ShaderMachine m = code.end().taken("each texture at 0, 0", false, 5);
        for (int k = 0; k < 4; k++) {
            m.texture(k, k, MOST - k, LEAST + k, -1 - k);
        }
        m.run();
        for (int k = 0; k < 4; k++) {
            Expect.vector("texture " + k, Code.out(m, k), k, MOST - k, LEAST + k, -1 - k);
        }
    }

    private static void textureIsRead() {
        ShaderMachine m = new Code()
                .add(Code.numbered(Code.toOut(33, 0), 2), Code.in(0))
                .add(Code.numbered(Code.toOut(32, 1), 2), Code.in(0))
                .end().taken("at a level and not", false, 3);
        m.texture(2, 1000, 2000, 3000, 4000);
        m.in(0, 1, -2, 3, 4);
        m.run();
        Expect.vector("at s, t, level l", Code.out(m, 0), 1001, 1998, 3003, 4000);
        Expect.vector("at s, t, level 0", Code.out(m, 1), 1001, 1998, 3000, 4000);
    }
}
