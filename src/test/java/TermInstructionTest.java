public final class TermInstructionTest {
    private static final int ONE = Code.ONE;
    private static final int MOST = Integer.MAX_VALUE;
    private static final int LEAST = Integer.MIN_VALUE;

    public static void main(String[] args) {
        new Section(Part.INSTRUCTION)
                .test("AN INSTRUCTION has three words", TermInstructionTest::threeWords)
                .test("The first one: bits 0 to 5 its KIND", TermInstructionTest::kind)
                .test("6 and 7 a FILE (0 temporaries, 1 outs)", TermInstructionTest::file)
                .test("and 8 to 11 the number of its TARGET", TermInstructionTest::target)
                .test("12 to 15 which parts of that are set (bit 12 x, .. 15 w)", TermInstructionTest::parts)
                .test("16 whether the result is KEPT WITHIN 0 .. ONE", TermInstructionTest::keptWithin)
                .test("17 to 31 a NUMBER n", TermInstructionTest::number)
                .test("The second one: the sources a (its lowest 16 bits) and b (the highest 16)", TermInstructionTest::second)
                .test("The third one: the source c", TermInstructionTest::third)
                .test("above it 0", TermInstructionTest::aboveThird)
                .end();
    }

    private static void threeWords() {
        ShaderMachine m = new ShaderMachine();
        // a copy and an END from word 2 on; read one word off it is neither
        m.poke(2, Code.toOut(1, 0));
        m.poke(3, Code.uniform(31));
        Expect.is("load(2, 2)", m.load(2, 2, false), 2);
        Expect.argument("load(1, 2)", () -> m.load(1, 2, false));
        Expect.argument("load(3, 2)", () -> m.load(3, 2, false));
        Expect.is("load(1021, 1)", m.load(1021, 1, false), 1);
        Expect.index("load(1022, 1)", () -> m.load(1022, 1, false));
        Expect.is("load(1021, 1) again", m.load(1021, 1, false), 1);
        m.poke(1023, 1);
        Expect.argument("the third word counts", () -> m.load(1021, 1, false));
    }

    private static void kind() {
        for (int kind = 0; kind < 64; kind++) {
            ShaderMachine m = new ShaderMachine();
            m.poke(0, kind);
            if (kind == 0) {
                Expect.is("kind 0", m.load(0, 1, true), 1);
            } else {
                Expect.argument("kind " + kind, () -> m.load(0, 1, true));
                Expect.is("the fault of kind " + kind, m.fault(0), kind > 40 ? 1 : Code.hasTarget(kind) ? 2 : faultAlone(kind));
            }
        }
        // bit 6 is no more of the kind
        new Code().words(1 << 6, 0, 0).refused("END with bit 6", false, 2, 0);
    }

    /** The least fault of an instruction of kinds 34 .. 38 that is the only one, all else being 0. */
    private static int faultAlone(int kind) {
        return kind == 35 ? 5 : kind == 38 ? 6 : 4;
    }

    private static void file() {
        for (int file = 0; file < 4; file++) {
            Code code = new Code().add(1 | file << 6 | 3 << 8 | 0xF000, Code.in(0)).end();
            if (file > 1) {
                code.refused("file " + file, false, 2, 0);
                continue;
            }
            ShaderMachine m = code.taken("file " + file, false, 2);
            m.in(0, 1, 2, 3, 4);
            m.run();
            Expect.is("temporary 3, file " + file, m.temporary(3, 3), file == 0 ? 4 : 0);
            Expect.is("out 3, file " + file, m.out(3, 3), file == 1 ? 4 : 0);
        }
    }

    private static void target() {
        for (int number = 0; number < 16; number++) {
            setsJust(number, false);
            if (number < 8) {
                setsJust(number, true);
            }
        }
    }

    private static void setsJust(int number, boolean isOut) {
        int first = isOut ? Code.toOut(1, number) : Code.toTemporary(1, number);
        ShaderMachine m = new Code().add(first, Code.in(0)).end().taken("target " + number, false, 2);
        m.in(0, 5, 6, 7, 8);
        m.run();
        for (int k = 0; k < 16; k++) {
            Expect.is("temporary " + k, m.temporary(k, 0), !isOut && k == number ? 5 : 0);
            Expect.is("out " + k, k < 8 ? m.out(k, 0) : 0, isOut && k == number ? 5 : 0);
        }
    }

    private static void parts() {
        for (int parts = 1; parts < 16; parts++) {
            ShaderMachine m = new Code()
                    .add(Code.toOut(1, 5), Code.in(0))
                    .add(1 | 1 << 6 | 5 << 8 | parts << 12, Code.in(1))
                    .add(1 | 15 << 8 | parts << 12, Code.in(1))
                    .end().taken("parts " + parts, false, 4);
            m.in(0, 1, 2, 3, 4);
            m.in(1, 10, 20, 30, 40);
            m.run();
            for (int part = 0; part < 4; part++) {
                boolean isSet = (parts >> part & 1) != 0;
                Expect.is("out 5, parts " + parts, m.out(5, part), isSet ? 10 * (part + 1) : part + 1);
                Expect.is("temporary 15, parts " + parts, m.temporary(15, part), isSet ? 10 * (part + 1) : 0);
            }
        }
    }

    private static void keptWithin() {
        int[][] cases = {
            {LEAST, 0}, {-ONE, 0}, {-1, 0}, {0, 0}, {1, 1}, {ONE - 1, ONE - 1}, {ONE, ONE}, {ONE + 1, ONE}, {MOST, ONE},
        };
        for (int kept = 0; kept < 2; kept++) {
            ShaderMachine m = new Code()
                    .add(Code.toOut(1, 0) | kept << 16, Code.in(0))
                    .add(Code.toTemporary(1, 0) | kept << 16, Code.in(0))
                    .end().taken("kept " + kept, false, 3);
            for (int[] c : cases) {
                m.in(0, c[0], c[0], 7, c[0]);
                m.run();
                int due = c[kept];
                Expect.vector("out of " + c[0] + ", kept " + kept, Code.out(m, 0), due, due, 7, due);
                Expect.vector("temporary of " + c[0] + ", kept " + kept, Code.temporary(m, 0), due, due, 7, due);
            }
        }
        keptForEachKind();
    }

    /** The result is kept within, not the sources: NOT of -2 is 1, of 5 below 0. */
    private static void keptForEachKind() {
        ShaderMachine m = new Code()
                .add(Code.toOut(26, 0) | 1 << 16, Code.in(0))
                .add(Code.toOut(3, 1) | 1 << 16, Code.in(0), Code.in(1))
                .add(Code.toOut(32, 2) | 1 << 16, Code.in(0))
                .add(Code.toOut(31, 3) | 1 << 16, Code.source(3, 0, 0, false))
                .add(Code.toOut(13, 4) | 1 << 16, Code.in(1))
                .end().taken("kept results", false, 6);
        m.in(0, -2, 5, LEAST, ONE);
        m.in(1, -1, MOST, MOST, 1);
        m.texture(0, 2, -6, MOST, LEAST);
        m.poke(0, ONE / 2);
        m.poke(1, -ONE);
        m.poke(2, 2 * ONE);
        m.run();
        Expect.vector("kind 26", Code.out(m, 0), 1, 0, ONE, 0);
        Expect.vector("kind 3, which wraps first", Code.out(m, 1), 0, 0, 1, ONE - 1);
        Expect.vector("kind 32", Code.out(m, 2), 0, 0, ONE, 0);
        Expect.vector("kind 31", Code.out(m, 3), ONE / 2, 0, ONE, ONE);
        Expect.vector("kind 13", Code.out(m, 4), 0, 0, 0, 0);
    }

    private static void number() {
        for (int bit = 17; bit < 32; bit++) {
            int n = 1 << (bit - 17);
            Code loop = new Code().add(Code.LOOP | 1 << bit).endLoop().end();
            if (n < 256) {
                loop.taken("LOOP of " + n, false, n + 2);
            } else {
                loop.refused("LOOP of " + n, false, 4, 0);
            }
            Code go = new Code().add(Code.GO | 1 << bit).times(128, Code.IDLE).end();
            if (n < 130) {
                Expect.is("run() over " + n, go.taken("goes on with " + n, false, 130).run(), 131 - n);
            } else {
                go.refused("goes on with " + n, false, 4, 0);
            }
            new Code().add(1 | 0xF000 | 1 << bit, Code.in(0)).end().refused("bit " + bit + " with kind 1", false, 4, 0);
        }
    }

    private static void second() {
        int[][] cases = {{0, 0}, {1, 0}, {0, 1}, {1, 1}};
        for (int[] negated : cases) {
            int a = Code.source(1, 3, Code.WZYX, negated[0] == 1);
            int b = Code.source(2, 31, Code.XYZW, negated[1] == 1);
            ShaderMachine m = new Code().words(Code.toOut(2, 0), a | b << 16, 0).end().taken("a and b", false, 2);
            m.in(3, 1, 2, 3, 4);
            m.uniform(31, 10, 20, 30, 40);
            m.run();
            int s = negated[0] == 1 ? -1 : 1;
            int t = negated[1] == 1 ? -1 : 1;
            Expect.vector("a + b", Code.out(m, 0), 4 * s + 10 * t, 3 * s + 20 * t, 2 * s + 30 * t, s + 40 * t);
        }
    }

    private static void third() {
        for (int negated = 0; negated < 2; negated++) {
            int c = Code.source(1, 7, Code.WZYX, negated == 1);
            ShaderMachine m = new Code().words(Code.toOut(5, 0), 0, c).end().taken("c", false, 2);
            m.in(7, 1, 2, 3, 4);
            m.run();
            int s = negated == 1 ? -1 : 1;
            Expect.vector("0 * 0 + c", Code.out(m, 0), 4 * s, 3 * s, 2 * s, s);
        }
    }

    private static void aboveThird() {
        for (int bit = 16; bit < 32; bit++) {
            new Code().words(Code.toOut(5, 0), 0, 1 << bit).end().refused("bit " + bit + " with c", false, 3, 0);
            new Code().words(Code.toOut(1, 0), 0, 1 << bit).end().refused("bit " + bit + " without c", false, 3, 0);
            new Code().words(Code.END, 0, 1 << bit).refused("bit " + bit + " of an END", false, 3, 0);
        }
    }
}
