import java.util.ArrayList;
import java.util.List;

/** Builds programs word by word. */
final class Code {
    static final int ONE = 65536;
    static final int XYZW = 0b11_10_01_00;
    static final int XXXX = 0;
    static final int WZYX = 0b00_01_10_11;

    static final int END = 0;
    static final int LOOP = 34;
    static final int ENDLOOP = 35;
    static final int GO_UNLESS_ABOVE = 36;
    static final int GO = 37;
    static final int KILL = 38;
    /** Sets temporary 0.x to itself: it has one word that is not 0, so that long programs need few calls. */
    static final int IDLE = 1 | 1 << 12;

    private static final String KINDS_WITH_B = " 2 3 4 5 6 7 8 9 16 17 18 19 20 21 22 23 24 25 27 28 29 ";
    private static final String KINDS_WITH_C = " 5 20 21 ";
    private static final String KINDS_WITHOUT_SOURCES = " 0 34 35 37 ";
    private static final String KINDS_WITHOUT_TARGET = " 0 34 35 36 37 38 ";

    private final List<int[]> instructions = new ArrayList<>();

    static int sources(int kind) {
        String name = " " + kind + " ";
        if (KINDS_WITHOUT_SOURCES.contains(name)) {
            return 0;
        }
        return KINDS_WITH_C.contains(name) ? 3 : KINDS_WITH_B.contains(name) ? 2 : 1;
    }

    static boolean hasTarget(int kind) {
        return !KINDS_WITHOUT_TARGET.contains(" " + kind + " ");
    }

    static int temporary(int number) {
        return source(0, number, XYZW, false);
    }

    static int in(int number) {
        return source(1, number, XYZW, false);
    }

    static int uniform(int number) {
        return source(2, number, XYZW, false);
    }

    static int source(int file, int number, int parts, boolean negated) {
        return file | number << 2 | parts << 7 | (negated ? 0x8000 : 0);
    }

    static int toTemporary(int kind, int number) {
        return kind | number << 8 | 0xF000;
    }

    static int toOut(int kind, int number) {
        return kind | 1 << 6 | number << 8 | 0xF000;
    }

    static int numbered(int first, int n) {
        return first | n << 17;
    }

    Code add(int first, int... sources) {
        int a = sources.length > 0 ? sources[0] : 0;
        int b = sources.length > 1 ? sources[1] : 0;
        int c = sources.length > 2 ? sources[2] : 0;
        return words(first, a | b << 16, c);
    }

    Code words(int first, int second, int third) {
        instructions.add(new int[] {first, second, third});
        return this;
    }

    Code times(int many, int first, int... sources) {
        for (int i = 0; i < many; i++) {
            add(first, sources);
        }
        return this;
    }

    Code loop(int n) {
        return add(numbered(LOOP, n));
    }

    Code endLoop() {
        return add(ENDLOOP);
    }

    Code go(int n) {
        return add(numbered(GO, n));
    }

    Code end() {
        return add(END);
    }

    int many() {
        return instructions.size();
    }

    Code poke(ShaderMachine m, int from) {
        for (int i = 0; i < instructions.size(); i++) {
            for (int j = 0; j < 3; j++) {
                m.poke(from + 3 * i + j, instructions.get(i)[j]);
            }
        }
        return this;
    }

    /** Of a new object, whose memory is 0: it is used for 512 calls at most. */
    Code pokeNew(ShaderMachine m, int from) {
        for (int i = 0; i < instructions.size(); i++) {
            for (int j = 0; j < 3; j++) {
                int word = instructions.get(i)[j];
                if (word != 0) {
                    m.poke(from + 3 * i + j, word);
                }
            }
        }
        return this;
    }

    int load(ShaderMachine m, boolean places) {
        return poke(m, 0).loadAgain(m, places);
    }

    int loadAgain(ShaderMachine m, boolean places) {
        return m.load(0, many(), places);
    }

    /** Expects a load that is refused with this fault at this place. */
    void refused(String what, boolean places, int fault, int place) {
        ShaderMachine m = new ShaderMachine();
        Expect.argument(what, () -> pokeNew(m, 0).loadAgain(m, places));
        Expect.is(what + ": fault(0)", m.fault(0), fault);
        Expect.is(what + ": fault(1)", m.fault(1), place);
        Expect.state(what + ": run()", m::run);
    }

    /** Expects a load that is taken with so many steps: the machine. */
    ShaderMachine taken(String what, boolean places, int steps) {
        ShaderMachine m = new ShaderMachine();
        Expect.is(what, pokeNew(m, 0).loadAgain(m, places), steps);
        Expect.is(what + ": fault(0)", m.fault(0), 0);
        Expect.is(what + ": fault(1)", m.fault(1), ShaderMachine.NONE);
        return m;
    }

    static void tellIn(ShaderMachine m, int k, int... v) {
        m.in(k, v[0], v[1], v[2], v[3]);
    }

    static int[] out(ShaderMachine m, int k) {
        return new int[] {m.out(k, 0), m.out(k, 1), m.out(k, 2), m.out(k, 3)};
    }

    static int[] temporary(ShaderMachine m, int k) {
        return new int[] {m.temporary(k, 0), m.temporary(k, 1), m.temporary(k, 2), m.temporary(k, 3)};
    }
}
