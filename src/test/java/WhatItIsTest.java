public final class WhatItIsTest {
    private static final int CALLS = 512;

    public static void main(String[] args) {
        new Section(Part.WHAT_IT_IS)
                .untested("A machine for small programs over vectors of four fixed numbers, as a drawing machine "
                        + "runs them for each corner and each place", "the terms say what these are")
                .test("programs are read from memory, checked so that each one ends, and run", WhatItIsTest::ends)
                .test("An object is used for at most 512 calls after it has been made", WhatItIsTest::lastCall)
                .untested("what later calls answer is free", "any answer is right")
                .end();
    }

    private static void ends() {
        ShaderMachine m = most().taken("a program that runs long", false, 65280 + 3);
        Expect.is("run() ends", m.run(), 65280 + 3);
        new Code().loop(255).loop(255).loop(255).loop(255).times(4, Code.ENDLOOP).end()
                .refused("a program that runs too long", false, 8, -1);
        new Code().add(Code.toOut(1, 0), Code.in(0)).go(0).end().refused("a program that goes back", false, 4, 1);
    }

    private static Code most() {
        // 1 + 254 + 254 * 255 + 254 + 1 steps, and 3 more
        return new Code().loop(254).loop(255).endLoop().endLoop().times(3, Code.toOut(1, 7), Code.in(7)).end();
    }

    /** The dearest calls that there are, up to the last one that is promised. */
    private static void lastCall() {
        ShaderMachine m = new ShaderMachine();
        Code code = most();
        code.poke(m, 0);
        int calls = 3 * code.many();
        m.in(7, 1, 2, 3, 4);
        calls++;
        while (calls < CALLS - 3) {
            Expect.is("load()", code.loadAgain(m, false), 65283);
            calls++;
        }
        Expect.argument("the last load() but one", () -> m.load(1, code.many() - 1, false));
        Expect.is("call 511, run()", m.run(), 65283);
        Expect.is("call 512, out(7, 3)", m.out(7, 3), 4);
        Expect.is("calls in all", calls + 3, CALLS);
        runsToTheLastCall(code);
    }

    private static void runsToTheLastCall(Code code) {
        ShaderMachine m = new ShaderMachine();
        code.load(m, false);
        for (int calls = 3 * code.many() + 1; calls < CALLS; calls++) {
            Expect.is("run()", m.run(), 65283);
        }
    }
}
