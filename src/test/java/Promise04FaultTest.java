public final class Promise04FaultTest {
    public static void main(String[] args) {
        ShaderMachine m = new ShaderMachine();
        told(m, "without a load", 0, -1);
        Expect.index("a load without words", () -> m.load(0, 0, false));
        told(m, "after a load without words", 0, -1);

        Code wrong = new Code().add(Code.toOut(1, 0), Code.in(0)).add(Code.toOut(1, 9), Code.in(0)).end();
        Expect.argument("an out above 7", () -> wrong.load(m, false));
        told(m, "after a load with a fault", 2, 1);
        Expect.index("many above 256", () -> m.load(0, 257, false));
        Expect.index("from below 0", () -> m.load(-1, 1, false));
        told(m, "after loads without words", 2, 1);

        Expect.is("a load without a fault", m.load(6, 1, false), 1);
        told(m, "after a load without a fault", 0, -1);

        Code steps = new Code().loop(255).loop(255).loop(2).endLoop().endLoop().endLoop().end();
        Expect.argument("too many steps", () -> steps.load(m, false));
        told(m, "after too many steps", 8, -1);
        m.run();
        m.poke(0, 0);
        told(m, "after run and poke", 8, -1);
        Expect.end();
    }

    private static void told(ShaderMachine m, String when, int fault, int place) {
        Expect.is(when + ": fault(0)", m.fault(0), fault);
        Expect.is(when + ": fault(1)", m.fault(1), place);
        for (int w : new int[] {-1, 2, 3, Integer.MIN_VALUE, Integer.MAX_VALUE}) {
            Expect.is(when + ": fault(" + w + ")", m.fault(w), -1);
        }
    }
}
