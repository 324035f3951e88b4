public final class TermStepsTest {
    private static final int COPY = Code.toOut(1, 0);

    public static void main(String[] args) {
        new Section(Part.STEPS)
                .test("STEPS: each instruction as often as the loops around it say together", TermStepsTest::together)
                .test("(a LOOP as what is around it)", TermStepsTest::loopAsAround)
                .end();
    }

    private static void together() {
        new Code().end().taken("END", false, 1);
        new Code().times(255, Code.IDLE).end().taken("no loop", false, 256);
        new Code().loop(3).loop(5).add(COPY, Code.in(0)).endLoop().endLoop().end()
                .taken("two loops", false, 1 + 3 + 15 + 15 + 3 + 1);
        new Code().loop(3).add(COPY, Code.in(0)).loop(5).endLoop().add(COPY, Code.in(0)).endLoop().add(COPY, Code.in(0)).end()
                .taken("before and behind the inner loop", false, 1 + 3 + 3 + 15 + 3 + 3 + 1 + 1);
        new Code().go(2).add(COPY, Code.in(0)).end().taken("what is gone over is counted", false, 3);
        new Code().loop(9).go(3).add(COPY, Code.in(0)).endLoop().end().taken("what is gone over in a loop, too", false, 29);
    }

    /** And an ENDLOOP as its loop. */
    private static void loopAsAround() {
        new Code().loop(255).endLoop().end().taken("one loop", false, 1 + 255 + 1);
        new Code().loop(1).endLoop().end().taken("one round", false, 3);
        new Code().loop(2).endLoop().loop(4).endLoop().end().taken("loops side by side", false, 1 + 2 + 1 + 4 + 1);
        new Code().loop(7).loop(11).endLoop().endLoop().end().taken("a loop in a loop", false, 1 + 7 + 77 + 7 + 1);
        new Code().loop(2).loop(3).loop(5).loop(7).times(4, Code.ENDLOOP).end()
                .taken("four loops", false, 1 + 2 + 6 + 30 + 210 + 30 + 6 + 2 + 1);
    }
}
