public final class Promise04FaultTest {
    private static final int[] OTHERS = {-1, 2, 3, 8, Integer.MIN_VALUE, Integer.MAX_VALUE};

    public static void main(String[] args) {
        new Section(Part.FAULT)
                .test("Of the latest load() that had its words", Promise04FaultTest::latest)
                .test("its fault (0)", Promise04FaultTest::each)
                .test("0 if it had none", Promise04FaultTest::none)
                .test("the place of that (1)", Promise04FaultTest::places)
                .test("NONE if it had none", Promise04FaultTest::noPlace)
                .test("or it was fault 8", Promise04FaultTest::steps)
                .test("(NONE for other w", Promise04FaultTest::others)
                .test("0 and NONE without such a load().)", Promise04FaultTest::withoutLoad)
                .end();
    }

    private static void told(ShaderMachine m, String when, int fault, int place) {
        Expect.is(when + ": fault(0)", m.fault(0), fault);
        Expect.is(when + ": fault(1)", m.fault(1), place);
    }

    /** A machine whose latest load had fault 2 at place 1. */
    private static ShaderMachine withFault() {
        ShaderMachine m = new ShaderMachine();
        Code wrong = new Code().add(Code.toOut(1, 0), Code.in(0)).add(Code.toOut(1, 9), Code.in(0)).end();
        Expect.argument("an out above 7", () -> wrong.load(m, false));
        told(m, "after it", 2, 1);
        return m;
    }

    private static void latest() {
        ShaderMachine m = withFault();
        int[][] without = {{0, 0}, {0, 257}, {0, 341}, {1, 341}, {-1, 1}, {1022, 1}, {0, 342}, {257, 256}};
        for (int[] w : without) {
            Expect.index("load(" + w[0] + ", " + w[1] + ")", () -> m.load(w[0], w[1], false));
            told(m, "after a load() without its words", 2, 1);
        }
        Expect.is("a right one", m.load(6, 1, false), 1);
        Expect.index("one without its words", () -> m.load(1022, 1, false));
        told(m, "after a right one and that", 0, -1);
        Expect.argument("the wrong one again", () -> m.load(0, 3, false));
        told(m, "after the wrong one again", 2, 1);
        Expect.argument("a part of it", () -> m.load(3, 2, false));
        told(m, "after a part of it", 2, 0);
        othersDontChangeIt(m);
    }

    private static void othersDontChangeIt(ShaderMachine m) {
        m.poke(3, 0);
        m.in(0, 1, 1, 1, 1);
        m.uniform(0, 1, 1, 1, 1);
        m.texture(0, 1, 1, 1, 1);
        Expect.is("run() of the right one", m.run(), 1);
        Expect.index("poke() that is refused", () -> m.poke(-1, 0));
        told(m, "after these", 2, 0);
    }

    private static void each() {
        ShaderMachine m = new ShaderMachine();
        int copy = Code.toOut(1, 0);
        refused(m, new Code().add(41), 1);
        refused(m, new Code().add(1, Code.in(0)).end(), 2);
        refused(m, new Code().add(copy, Code.in(8)).end(), 3);
        refused(m, new Code().loop(256).endLoop().end(), 4);
        refused(m, new Code().loop(1).end(), 5);
        refused(m, new Code().end().end(), 6);
        refused(m, new Code().add(Code.KILL, Code.in(0)).end(), 7);
        refused(m, new Code().loop(255).loop(255).endLoop().endLoop().end(), 8);
    }

    private static void refused(ShaderMachine m, Code code, int fault) {
        Expect.argument("a program with fault " + fault, () -> code.load(m, false));
        Expect.is("fault(0)", m.fault(0), fault);
        Expect.is("fault(0) again", m.fault(0), fault);
    }

    private static void none() {
        ShaderMachine m = withFault();
        m.load(6, 1, false);
        Expect.is("fault(0) after a right one", m.fault(0), 0);
    }

    private static void places() {
        for (int place : new int[] {0, 1, 100, 254, 255}) {
            new Code().times(place, Code.IDLE).add(63).refused("a fault at " + place, false, 1, place);
        }
        new Code().loop(1).loop(1).end().refused("a LOOP alone", false, 5, 1);
        new Code().add(Code.toOut(1, 0), Code.in(0)).go(3).loop(1).endLoop().end().refused("a stray", false, 5, 1);
    }

    private static void noPlace() {
        ShaderMachine m = withFault();
        m.load(6, 1, false);
        Expect.is("fault(1) after a right one", m.fault(1), ShaderMachine.NONE);
    }

    private static void steps() {
        ShaderMachine m = withFault();
        Code steps = new Code().loop(255).loop(255).loop(2).endLoop().endLoop().endLoop().end();
        Expect.argument("too many steps", () -> steps.load(m, false));
        told(m, "after that", 8, ShaderMachine.NONE);
    }

    private static void others() {
        ShaderMachine fresh = new ShaderMachine();
        ShaderMachine wrong = withFault();
        ShaderMachine right = new Code().end().taken("a right one", false, 1);
        for (int w : OTHERS) {
            Expect.is("fault(" + w + ") of a new object", fresh.fault(w), -1);
            Expect.is("fault(" + w + ") with a fault", wrong.fault(w), -1);
            Expect.is("fault(" + w + ") without a fault", right.fault(w), -1);
        }
    }

    private static void withoutLoad() {
        ShaderMachine m = new ShaderMachine();
        told(m, "without a load()", 0, -1);
        m.poke(0, 63);
        Expect.index("a load() without words", () -> m.load(0, 0, false));
        Expect.index("another", () -> m.load(1022, 1, false));
        Expect.index("a third one", () -> m.load(0, 257, false));
        told(m, "after these", 0, -1);
    }
}
