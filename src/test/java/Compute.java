/** Programs of one instruction, told by its sources' vectors and what it is due to give. */
final class Compute {
    static final int ONE = Code.ONE;
    static final int MOST = Integer.MAX_VALUE;
    static final int LEAST = Integer.MIN_VALUE;

    private Compute() { }

    static int[] v(int x, int y, int z, int w) {
        return new int[] {x, y, z, w};
    }

    static int[] all(int x) {
        return v(x, x, x, x);
    }

    /** A machine with a program that sets out 0 by this kind, its sources being the ins 0, 1, 2. */
    static ShaderMachine machine(int kind) {
        int[] sources = new int[Code.sources(kind)];
        for (int i = 0; i < sources.length; i++) {
            sources[i] = Code.in(i);
        }
        return new Code().add(Code.toOut(kind, 0), sources).end().taken("kind " + kind, false, 2);
    }

    static void due(int kind, int[] a, int[] b, int[] c, int[] due) {
        ShaderMachine m = machine(kind);
        Code.tellIn(m, 0, a);
        Code.tellIn(m, 1, b);
        Code.tellIn(m, 2, c);
        Expect.is("run() of kind " + kind, m.run(), 2);
        Expect.vector("kind " + kind, Code.out(m, 0), due[0], due[1], due[2], due[3]);
    }

    static void due(int kind, int[] a, int[] b, int[] due) {
        due(kind, a, b, all(77), due);
    }

    static void due(int kind, int[] a, int[] due) {
        due(kind, a, all(55), all(77), due);
    }

    /** For kinds that read the part x of a alone: pairs of that and what each part becomes. */
    static void dueOfX(int kind, int[][] cases) {
        for (int[] c : cases) {
            due(kind, v(c[0], 9, -8, 7), all(c[1]));
        }
    }
}
