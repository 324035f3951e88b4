import java.util.Arrays;

public final class TermKindsTest {
    private static final int ONE = Compute.ONE;
    private static final int MOST = Compute.MOST;
    private static final int LEAST = Compute.LEAST;
    private static final int[] A = v(0b1100, -1, LEAST, 0x12345678);
    private static final int[] B = v(0b1010, 0, MOST, 0xFF00FF);

    public static void main(String[] args) {
        Section section = new Section(Part.KINDS);
        general(section);
        arithmetic(section);
        ofPartX(section);
        comparisons(section);
        vectors(section);
        bits(section);
        reads(section);
        withoutTarget(section);
        section.end();
    }

    private static int[] v(int x, int y, int z, int w) {
        return Compute.v(x, y, z, w);
    }

    private static int[] all(int x) {
        return Compute.all(x);
    }

    private static void due(int kind, int[] a, int[] b, int[] c, int[] due) {
        Compute.due(kind, a, b, c, due);
    }

    private static void due(int kind, int[] a, int[] b, int[] due) {
        Compute.due(kind, a, b, due);
    }

    private static void due(int kind, int[] a, int[] due) {
        Compute.due(kind, a, due);
    }

    private static void general(Section section) {
        section.test("KINDS, with the sources that they have", TermKindsTest::sourcesOfEachKind)
                .test("each for each part, where nothing else is said", TermKindsTest::eachPart)
                .test("all sources are read before the target is set", TermKindsTest::readBeforeSet);
    }

    /** The last source that a kind has may have any bit that a right source has, the next one none. */
    private static void sourcesOfEachKind() {
        for (int kind = 1; kind <= 40; kind++) {
            if (Code.hasTarget(kind)) {
                int[] sources = new int[Code.sources(kind)];
                for (int i = 0; i < sources.length; i++) {
                    sources[i] = Code.source(2, 31, 255, true);
                }
                new Code().add(Code.toOut(kind, 0), sources).end().taken("sources of kind " + kind, false, 2);
                if (sources.length < 3) {
                    int[] more = Arrays.copyOf(sources, sources.length + 1);
                    more[sources.length] = 3;
                    new Code().add(Code.toOut(kind, 0), more).end().refused("more sources of kind " + kind, false, 3, 0);
                }
            }
        }
    }

    private static void eachPart() {
        due(2, v(1, 2, 3, 4), v(10, 200, 3000, 40000), v(11, 202, 3003, 40004));
        due(5, v(ONE, 2 * ONE, 3 * ONE, 4 * ONE), v(1, 1, 1, 1), v(10, 20, 30, 40), v(11, 22, 33, 44));
        due(20, v(-1, 0, -1, 0), v(1, 2, 3, 4), v(5, 6, 7, 8), v(5, 2, 7, 4));
        due(29, all(-1), v(31, 30, 29, 28), v(1, 3, 7, 15));
    }

    private static void readBeforeSet() {
        ShaderMachine m = new Code()
                .add(Code.toTemporary(1, 3), Code.in(0))
                .add(Code.toTemporary(1, 3), Code.source(0, 3, 0b00_11_10_01, false))
                .add(Code.toTemporary(1, 4), Code.temporary(3))
                .add(Code.toTemporary(22, 3), Code.temporary(3), Code.in(0))
                .add(Code.toTemporary(7, 4), Code.temporary(4), Code.temporary(4))
                .add(Code.toTemporary(1, 5), Code.in(0))
                .add(Code.toTemporary(5, 5), Code.temporary(5), Code.source(0, 5, Code.WZYX, false), Code.source(0, 5, Code.XXXX, true))
                .end().taken("sources that are the target", false, 8);
        m.in(0, ONE, 2 * ONE, 3 * ONE, 4 * ONE);
        m.run();
        // (2, 3, 4) with (1, 2, 3); (2, 3, 4, 1) with itself; (1, 2, 3, 4) with (4, 3, 2, 1), less 1
        Expect.vector("kind 22", Code.temporary(m, 3), ONE, -2 * ONE, ONE, 0);
        Expect.vector("kind 7", Code.temporary(m, 4), 30 * ONE, 30 * ONE, 30 * ONE, 30 * ONE);
        Expect.vector("kind 5", Code.temporary(m, 5), 3 * ONE, 5 * ONE, 5 * ONE, 3 * ONE);
    }

    private static void arithmetic(Section section) {
        section.test("0 END.", TermKindsTest::end)
                .test("1 a.", () -> due(1, v(1, MOST, LEAST, -9), v(1, MOST, LEAST, -9)))
                .test("2 a + b.", () -> due(2, v(1, MOST, LEAST, -9), v(5, 1, -1, 4), v(6, LEAST, MOST, -5)))
                .test("3 a - b.", () -> due(3, v(1, MOST, LEAST, -9), v(5, -1, 1, 4), v(-4, LEAST, MOST, -13)))
                .test("4 PRODUCT of a, b.", () ->
                        due(4, v(3 * ONE, -1, 1, MOST), v(ONE / 2, 1, ONE - 1, MOST), v(3 * ONE / 2, -1, 0, -65536)))
                .test("5 that + c.", () ->
                        due(5, v(3 * ONE, -1, MOST, ONE), v(ONE / 2, 1, ONE, ONE), v(1, 2, 1, -1), v(98305, 1, LEAST, ONE - 1)))
                .test("6 the sum of the PRODUCTS of the parts x, y, z of a, b;", TermKindsTest::sumOfThree)
                .test("7 of all four parts", TermKindsTest::sumOfFour)
                .test("(both in each part)", TermKindsTest::sumsInEachPart)
                .test("8 the lesser of a, b.", () ->
                        due(8, v(1, MOST, LEAST, -9), v(5, LEAST, LEAST, -10), v(1, LEAST, LEAST, -10)))
                .test("9 the greater.", () ->
                        due(9, v(1, MOST, LEAST, -9), v(5, LEAST, LEAST, -10), v(5, MOST, LEAST, -9)))
                .test("10 a without sign", () -> due(10, v(5, -5, 0, MOST), v(5, 5, 0, MOST)))
                .test("(2^31 - 1 for -2^31)", () -> due(10, v(LEAST, LEAST + 1, -1, MOST), v(MOST, MOST, 1, MOST)))
                .test("11 a, its lowest sixteen bits 0.", TermKindsTest::whole)
                .test("12 these alone.", TermKindsTest::fraction);
    }

    private static void end() {
        Expect.is("END alone", new Code().end().taken("END", false, 1).run(), 1);
        ShaderMachine m = new Code().add(Code.toOut(1, 0), Code.in(0)).end().taken("END behind a copy", false, 2);
        Expect.is("END behind a copy", m.run(), 2);
    }

    private static void sumOfThree() {
        due(6, v(ONE, 2 * ONE, 3 * ONE, 4 * ONE), v(1, 10, 100, 1000), all(321));
        // each product goes down by itself, before they are added
        due(6, all(-1), all(1), all(-3));
        due(6, all(ONE / 2), all(1), all(0));
        due(6, v(MOST, 1, 0, 9), all(ONE), all(LEAST));
        due(6, v(0, 0, 0, MOST), all(ONE), all(0));
    }

    private static void sumOfFour() {
        due(7, v(ONE, 2 * ONE, 3 * ONE, 4 * ONE), v(1, 10, 100, 1000), all(4321));
        due(7, all(-1), all(1), all(-4));
        due(7, all(ONE / 2), all(1), all(0));
        due(7, v(0, 0, 0, MOST), all(ONE), all(MOST));
    }

    private static void sumsInEachPart() {
        for (int part = 0; part < 4; part++) {
            ShaderMachine m = new Code()
                    .add(6 | 1 << (12 + part), Code.in(0), Code.in(1))
                    .add(7 | 1 << 8 | 1 << (12 + part), Code.in(0), Code.in(1))
                    .end().taken("sums in part " + part, false, 3);
            m.in(0, ONE, ONE, ONE, ONE);
            m.in(1, 1, 2, 3, 4);
            m.run();
            Expect.is("of three, part " + part, m.temporary(0, part), 6);
            Expect.is("of four, part " + part, m.temporary(1, part), 10);
        }
    }

    private static void whole() {
        due(11, v(ONE + 5, -1, ONE - 1, MOST), v(ONE, -ONE, 0, 0x7FFF0000));
        due(11, v(LEAST, LEAST + 1, -ONE, -ONE - 1), v(LEAST, LEAST, -ONE, -2 * ONE));
    }

    private static void fraction() {
        due(12, v(ONE + 5, -1, ONE - 1, LEAST), v(5, 0xFFFF, 0xFFFF, 0));
        due(12, v(ONE, MOST, -ONE, -ONE - 1), v(0, 0xFFFF, 0, 0xFFFF));
    }

    private static void ofPartX(Section section) {
        section.test("Of the part x of a, in each part:", TermKindsTest::partX)
                .test("13 QUOTIENT of ONE by it.", () -> Compute.dueOfX(13, new int[][] {
                    {ONE, ONE}, {2 * ONE, ONE / 2}, {-ONE, -ONE}, {3 * ONE, 21845}, {-3 * ONE, -21846}, {0, MOST},
                    {1, MOST}, {2, MOST}, {3, 1431655765}, {-1, LEAST}, {-2, LEAST}, {-3, -1431655766},
                    {MOST, 2}, {LEAST, -2}, {LEAST + 1, -3},
                }))
                .test("14 the greatest r with r * r * a not above 2^48", TermKindsTest::rootOfReciprocal)
                .test("2^31 - 1 if a is not above 0.", () ->
                        Compute.dueOfX(14, new int[][] {{0, MOST}, {-1, MOST}, {-ONE, MOST}, {LEAST, MOST}, {1, 1 << 24}}))
                .test("15 the greatest r with r * r not above 65536 * a", TermKindsTest::root)
                .test("0 if a is below 0.", () ->
                        Compute.dueOfX(15, new int[][] {{-1, 0}, {-ONE, 0}, {LEAST, 0}, {0, 0}, {1, 256}}));
    }

    private static void partX() {
        for (int kind = 13; kind <= 15; kind++) {
            for (int part = 0; part < 4; part++) {
                // x of the source as it is read: one of the vector's parts, or 0 - part
                int source = Code.source(1, 0, part | 0b100100 << 2, true);
                ShaderMachine m = new Code().add(Code.toOut(kind, 0), source).end().taken("part x", false, 2);
                int[] parts = all(-ONE);
                parts[part] = -4 * ONE;
                Code.tellIn(m, 0, parts);
                m.run();
                int due = kind == 13 ? ONE / 4 : kind == 14 ? ONE / 2 : 2 * ONE;
                Expect.vector("kind " + kind + " of part " + part, Code.out(m, 0), due, due, due, due);
            }
        }
    }

    private static void rootOfReciprocal() {
        Compute.dueOfX(14, new int[][] {
            {ONE, ONE}, {4 * ONE, ONE / 2}, {ONE / 4, 2 * ONE}, {1, 1 << 24}, {2, 11863283}, {3, 9686330}, {4, 1 << 23},
            {5, 7502999}, {MOST, 362}, {MOST - 1, 362}, {2 * ONE, 46340}, {1 << 30, 512}, {(1 << 30) + 1, 511},
            {(1 << 30) - 1, 512}, {ONE + 1, ONE - 1}, {ONE - 1, ONE},
        });
    }

    private static void root() {
        Compute.dueOfX(15, new int[][] {
            {ONE, ONE}, {4 * ONE, 2 * ONE}, {2 * ONE, 92681}, {0, 0}, {1, 256}, {2, 362}, {3, 443}, {4, 512},
            {ONE - 1, ONE - 1}, {ONE + 1, ONE}, {ONE + 2, ONE}, {ONE + 3, ONE + 1}, {MOST, 11863283}, {1 << 30, 8388608}, {(1 << 30) - 1, 8388607},
        });
    }

    private static void comparisons(Section section) {
        int[] a = v(1, -1, LEAST, 5);
        int[] b = v(2, -1, MOST, 4);
        section.test("ONE if (else 0):", () -> due(16, v(0, 1, 0, 1), v(1, 0, 1, 0), v(ONE, 0, ONE, 0)))
                .test("16 a is less than b;", () -> due(16, a, b, v(ONE, 0, ONE, 0)))
                .test("17 it isn't;", () -> due(17, a, b, v(0, ONE, 0, ONE)))
                .test("18 they are alike;", () -> due(18, a, b, v(0, ONE, 0, 0)))
                .test("19 not.", () -> due(19, a, b, v(ONE, 0, ONE, ONE)))
                .test("20 b if a is 0 or more, else c.", () ->
                        due(20, v(0, MOST, -1, LEAST), v(1, 2, 3, 4), v(5, 6, 7, 8), v(1, 2, 7, 8)))
                .test("21 PRODUCT of a and (b - c), + c.", TermKindsTest::mixture);
    }

    private static void mixture() {
        due(21, v(0, ONE, ONE / 2, -ONE), v(10, 10, 11, 10), all(20), v(20, 10, 15, 30));
        due(21, v(ONE, ONE / 2, 2 * ONE, ONE), v(MOST, MOST, 3, LEAST), v(-1, -1, 1, 1), v(MOST, -(1 << 30) - 1, 5, LEAST));
        due(21, v(1, -1, 1, -1), v(1, 1, 0, 0), v(0, 0, 1, 1), v(0, -1, 0, 1));
    }

    private static void vectors(Section section) {
        section.test("22 x: PRODUCT of a.y, b.z less that of a.z, b.y;", () -> cross(1, 2, v(1, 0, 0, 0)))
                .test("y: of a.z, b.x less a.x, b.z;", () -> cross(2, 0, v(0, 1, 0, 0)))
                .test("z: of a.x, b.y less a.y, b.x;", () -> cross(0, 1, v(0, 0, 1, 0)))
                .test("w: 0.", TermKindsTest::crossW);
    }

    /** With just part i of a and part j of b, and the other way round; each product goes down by itself. */
    private static void cross(int i, int j, int[] due) {
        int[] a = new int[4];
        int[] b = new int[4];
        a[i] = 3 * ONE;
        b[j] = 5;
        due(22, a, b, v(15 * due[0], 15 * due[1], 15 * due[2], 0));
        due(22, b, a, v(-15 * due[0], -15 * due[1], -15 * due[2], 0));
        a[i] = -1;
        b[j] = 1;
        due(22, a, b, v(-due[0], -due[1], -due[2], 0));
        due(22, b, a, v(due[0], due[1], due[2], 0));
        due(22, v(2 * ONE, 3 * ONE, 5 * ONE, 9), v(7, 11, 13, 9), v(39 - 55, 35 - 26, 22 - 21, 0));
    }

    private static void crossW() {
        due(22, v(0, 0, 0, ONE), v(0, 0, 0, ONE), all(0));
        ShaderMachine m = new Code()
                .add(Code.toOut(1, 0), Code.in(0))
                .add(Code.toOut(22, 0), Code.in(0), Code.in(0)).end().taken("w that was not 0", false, 3);
        m.in(0, ONE, ONE, ONE, ONE);
        m.run();
        Expect.vector("a vector with itself", Code.out(m, 0), 0, 0, 0, 0);
    }

    private static void bits(Section section) {
        section.test("Bit by bit: 23 a and b.", () -> due(23, A, B, v(0b1000, 0, 0, 0x340078)))
                .test("24 or.", () -> due(24, A, B, v(0b1110, -1, -1, 0x12FF56FF)))
                .test("25 one of them alone.", () -> due(25, A, B, v(0b0110, -1, -1, 0x12CB5687)))
                .test("26 not a.", () -> due(26, A, v(~0b1100, 0, MOST, 0xEDCBA987)))
                .test("Moved by the lowest five bits of b:", TermKindsTest::lowestFiveBits)
                .test("27 a up", () -> due(27, v(3, 3, -1, MOST), v(0, 31, 16, 1), v(3, LEAST, -ONE, -2)))
                .test("28 down with its sign", () -> due(28, v(-3, LEAST, MOST, 256), v(1, 31, 31, 4), v(-2, -1, 0, 16)))
                .test("29 down without.", () -> due(29, v(-3, LEAST, MOST, -1), v(1, 31, 30, 0), v(0x7FFFFFFE, 1, 1, -1)))
                .test("39 a down by 16 with its sign.", () ->
                        due(39, v(ONE + 5, -1, LEAST, MOST), v(1, -1, -32768, 32767)))
                .test("40 a up by 16.", () -> due(40, v(1, -1, 0x12345, 32768), v(ONE, -ONE, 0x23450000, LEAST)));
    }

    private static void lowestFiveBits() {
        int[] by = v(32, 33, -1, ONE + 4);
        due(27, all(5), by, v(5, 10, LEAST, 80));
        due(28, all(-64), by, v(-64, -32, -1, -4));
        due(29, all(-64), by, v(-64, 0x7FFFFFE0, 1, 0x0FFFFFFC));
        due(27, all(1), v(LEAST, MOST, 31, -32), v(1, LEAST, LEAST, 1));
    }

    private static void reads(Section section) {
        section.test("With k the part x of a, down by 16 with its sign:", TermKindsTest::numberOfRead)
                .test("30 uniform k", TermKindsTest::uniforms)
                .test("(all 0 if there is none).", TermKindsTest::noUniform)
                .test("31 the words k, k + 1, k + 2, k + 3 of memory", TermKindsTest::words)
                .test("(k + 1 .. wrapping round).", TermKindsTest::wordsThatWrap)
                .test("32 texture n at a.x, a.y, level 0;", () -> texture(32, 0))
                .test("33 at level a.z.", () -> texture(33, 3));
    }

    private static ShaderMachine withUniforms() {
        ShaderMachine m = Compute.machine(30);
        for (int k = 0; k < 32; k++) {
            m.uniform(k, k + 1, k + 2, k + 3, k + 4);
        }
        return m;
    }

    private static void reads(ShaderMachine m, int a, int x, int y, int z, int w) {
        m.in(0, a, 3 * ONE, 4 * ONE, 5 * ONE);
        m.run();
        Expect.vector("read at " + a, Code.out(m, 0), x, y, z, w);
    }

    private static void numberOfRead() {
        ShaderMachine uniforms = withUniforms();
        reads(uniforms, 7 * ONE, 8, 9, 10, 11);
        reads(uniforms, 8 * ONE - 1, 8, 9, 10, 11);
        reads(uniforms, 7 * ONE - 1, 7, 8, 9, 10);
        reads(uniforms, -1, 0, 0, 0, 0);
        ShaderMachine words = Compute.machine(31);
        words.poke(7, 70);
        words.poke(8, 80);
        reads(words, 7 * ONE, 70, 80, 0, 0);
        reads(words, 8 * ONE - 1, 70, 80, 0, 0);
        reads(words, 5 * ONE - 1, 0, 0, 0, 70);
        reads(words, -1, 0, Code.toOut(31, 0), Code.in(0), 0);
    }

    private static void uniforms() {
        ShaderMachine m = withUniforms();
        for (int k = 0; k < 32; k++) {
            reads(m, k * ONE, k + 1, k + 2, k + 3, k + 4);
        }
    }

    private static void noUniform() {
        ShaderMachine m = withUniforms();
        for (int a : new int[] {-1, -ONE, 32 * ONE, 33 * ONE, 64 * ONE, 1024 * ONE, MOST, LEAST, 0x40000000}) {
            reads(m, 31 * ONE, 32, 33, 34, 35);
            reads(m, a, 0, 0, 0, 0);
        }
    }

    private static ShaderMachine withWords() {
        ShaderMachine m = Compute.machine(31);
        for (int k : new int[] {0, 1, 2, 3, 4, 1020, 1021, 1022, 1023}) {
            m.poke(k, 5000 + k);
        }
        return m;
    }

    private static void words() {
        ShaderMachine m = withWords();
        reads(m, 0, 5000, 5001, 5002, 5003);
        reads(m, ONE, 5001, 5002, 5003, 5004);
        reads(m, 1019 * ONE, 0, 6020, 6021, 6022);
        reads(m, 1020 * ONE, 6020, 6021, 6022, 6023);
    }

    /** As sums of ints wrap: a word behind the last one isn't there, and word 0 stands behind -1. */
    private static void wordsThatWrap() {
        ShaderMachine m = withWords();
        reads(m, 1021 * ONE, 6021, 6022, 6023, 0);
        reads(m, 1023 * ONE, 6023, 0, 0, 0);
        reads(m, 1024 * ONE, 0, 0, 0, 0);
        reads(m, -ONE, 0, 5000, 5001, 5002);
        reads(m, -3 * ONE, 0, 0, 0, 5000);
        reads(m, -4 * ONE, 0, 0, 0, 0);
        reads(m, MOST, 0, 0, 0, 0);
        reads(m, LEAST, 0, 0, 0, 0);
    }

    private static void texture(int kind, int level) {
        for (int n = 0; n < 4; n++) {
            ShaderMachine m = new Code().add(Code.numbered(Code.toOut(kind, 0), n), Code.in(0)).end()
                    .taken("texture " + n, false, 2);
            for (int k = 0; k < 4; k++) {
                m.texture(k, 100 * k, 200 * k, 300 * k, 400 * k);
            }
            m.in(0, 1, 2, 3, 4);
            m.run();
            Expect.vector("texture " + n, Code.out(m, 0), 100 * n + 1, 200 * n + 2, 300 * n + level, 400 * n);
        }
    }

    private static void withoutTarget(Section section) {
        section.test("Without a target, like END:", TermKindsTest::noTarget)
                .test("34 LOOP: what is between it and its ENDLOOP is done n times.", TermKindsTest::loops)
                .test("35 ENDLOOP.", TermKindsTest::endLoops)
                .test("36 if a.x is not above 0, it goes on with instruction n.", TermKindsTest::goesUnlessAbove)
                .test("37 it goes on with instruction n.", TermKindsTest::goes)
                .test("38 if any part of a is below 0, the program ends here: it is KILLED.", TermKindsTest::kills);
    }

    private static void noTarget() {
        Code code = new Code().loop(2)
                .add(Code.numbered(Code.GO_UNLESS_ABOVE, 2), Code.in(0))
                .add(Code.numbered(Code.GO, 3)).add(Code.KILL, Code.in(0)).endLoop().end();
        ShaderMachine m = code.taken("kinds without a target", true, 10);
        m.in(0, 1, 2, 3, 4);
        Expect.is("run()", m.run(), 10);
        for (int k = 0; k < 16; k++) {
            Expect.vector("temporary " + k, Code.temporary(m, k), 0, 0, 0, 0);
        }
        Expect.vector("out 0", Code.out(m, 0), 0, 0, 0, 0);
        for (int kind : new int[] {0, 34, 35, 36, 37, 38}) {
            new Code().words(kind | 0xF000, 0, 0).end().refused("kind " + kind + " with parts", true, 2, 0);
        }
    }

    private static void loops() {
        for (int n : new int[] {1, 2, 254, 255}) {
            ShaderMachine m = new Code().loop(n)
                    .add(Code.toTemporary(2, 0), Code.temporary(0), Code.in(0)).endLoop().end().taken("LOOP", false, 2 + 2 * n);
            m.in(0, 1, 0, 0, -1);
            Expect.is("run() of " + n + " rounds", m.run(), 2 + 2 * n);
            Expect.vector("what they add up to", Code.temporary(m, 0), n, 0, 0, -n);
        }
        Expect.is("nothing between", new Code().loop(255).endLoop().end().taken("LOOP", false, 257).run(), 257);
        fourLoops();
    }

    private static void fourLoops() {
        Code code = new Code();
        for (int i = 0; i < 4; i++) {
            code.loop(i + 2).add(Code.toTemporary(2, i), Code.temporary(i), Code.in(0));
        }
        int steps = 1 + 2 + 2 + 6 + 6 + 24 + 24 + 120 + 120 + 24 + 6 + 2 + 1;
        ShaderMachine m = code.times(4, Code.ENDLOOP).end().taken("four loops", false, steps);
        m.in(0, 1, 0, 0, -1);
        Expect.is("run()", m.run(), steps);
        Expect.vector("outermost", Code.temporary(m, 0), 2, 0, 0, -2);
        Expect.vector("second", Code.temporary(m, 1), 6, 0, 0, -6);
        Expect.vector("third", Code.temporary(m, 2), 24, 0, 0, -24);
        Expect.vector("innermost", Code.temporary(m, 3), 120, 0, 0, -120);
    }

    /** Each closes the LOOP nearest before it that is still open. */
    private static void endLoops() {
        ShaderMachine m = new Code()
                .loop(3).loop(2).endLoop()
                .add(Code.toTemporary(2, 0), Code.temporary(0), Code.in(0))
                .loop(5).add(Code.toTemporary(2, 1), Code.temporary(1), Code.in(0)).endLoop()
                .endLoop()
                .add(Code.toTemporary(2, 2), Code.temporary(2), Code.in(0))
                .end().taken("loops in a loop", false, 1 + 3 + 6 + 3 + 3 + 15 + 15 + 3 + 1 + 1);
        m.in(0, 1, 1, 1, 1);
        Expect.is("run()", m.run(), 51);
        Expect.is("between the inner loops", m.temporary(0, 0), 3);
        Expect.is("in the second inner loop", m.temporary(1, 0), 15);
        Expect.is("behind all", m.temporary(2, 0), 1);
    }

    private static void goesUnlessAbove() {
        ShaderMachine m = new Code()
                .add(Code.numbered(Code.GO_UNLESS_ABOVE, 3), Code.source(1, 0, Code.WZYX, false))
                .add(Code.toOut(1, 0), Code.in(1))
                .go(4)
                .add(Code.toOut(1, 1), Code.in(1))
                .end().taken("either or", false, 5);
        m.in(1, 7, 7, 7, 7);
        int[][] cases = {{1, 4, 7, 0}, {0, 3, 0, 7}, {-1, 3, 0, 7}, {LEAST, 3, 0, 7}, {MOST, 4, 7, 0}};
        for (int[] c : cases) {
            m.in(0, -c[0], 1, -1, c[0]);
            Expect.is("run() with " + c[0], m.run(), c[1]);
            Expect.is("out 0 with " + c[0], m.out(0, 0), c[2]);
            Expect.is("out 1 with " + c[0], m.out(1, 0), c[3]);
        }
    }

    private static void goes() {
        // onto a LOOP from around it, and to the ENDLOOP of its own loop
        ShaderMachine m = new Code()
                .go(2)
                .add(Code.toOut(1, 0), Code.in(0))
                .loop(3)
                .add(Code.toTemporary(2, 0), Code.temporary(0), Code.in(0))
                .go(6)
                .add(Code.toTemporary(2, 1), Code.temporary(1), Code.in(0))
                .endLoop()
                .end().taken("goes in loops", false, 1 + 1 + 1 + 3 * 4 + 1);
        m.in(0, 5, 6, 7, 8);
        Expect.is("run()", m.run(), 1 + 1 + 3 * 3 + 1);
        Expect.vector("done each time", Code.temporary(m, 0), 15, 18, 21, 24);
        Expect.vector("gone over", Code.temporary(m, 1), 0, 0, 0, 0);
        Expect.vector("gone over before", Code.out(m, 0), 0, 0, 0, 0);
        Expect.is("to the next one", new Code().go(1).go(2).end().taken("goes", false, 3).run(), 3);
    }

    private static void kills() {
        ShaderMachine m = new Code()
                .add(Code.toOut(1, 0), Code.in(0))
                .add(Code.KILL, Code.in(0))
                .add(Code.toOut(1, 1), Code.in(0))
                .end().taken("kills", true, 4);
        for (int part = 0; part < 4; part++) {
            for (int v : new int[] {-1, LEAST, 0, MOST}) {
                int[] x = all(part);
                x[part] = v;
                Code.tellIn(m, 0, x);
                Expect.is("run() with " + v + " in part " + part, m.run(), v < 0 ? 2 : 4);
                Expect.holds("killed or not", m.killed() == v < 0);
                Expect.vector("set before", Code.out(m, 0), x[0], x[1], x[2], x[3]);
                Expect.is("set behind", m.out(1, part), v < 0 ? 0 : v);
            }
        }
    }
}
