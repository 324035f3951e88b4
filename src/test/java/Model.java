import java.math.BigInteger;
import java.util.Arrays;

/** The document written a second time, with whole numbers of any size and no care for speed. */
final class Model {
    private static final BigInteger ONE = BigInteger.valueOf(65536);
    private static final BigInteger TWO_TO_48 = BigInteger.ONE.shiftLeft(48);
    private static final int MOST = Integer.MAX_VALUE;

    private final int[] memory = new int[1024];
    private final int[][] temporaries = new int[16][4];
    private final int[][] ins = new int[8][4];
    private final int[][] outs = new int[8][4];
    private final int[][] uniforms = new int[32][4];
    private final int[][] textures = new int[4][4];
    private int[][] program;
    private int fault = 0;
    private int place = -1;
    private boolean killed;
    private int done;

    void poke(int k, int v) {
        need(k >= 0 && k < 1024);
        memory[k] = v;
    }

    private static void need(boolean isThere) {
        if (!isThere) {
            throw new IndexOutOfBoundsException();
        }
    }

    void tell(char which, int k, int[] v) {
        int[][] file = which == 'i' ? ins : which == 'u' ? uniforms : textures;
        need(k >= 0 && k < file.length);
        file[k] = v.clone();
    }

    int read(char which, int k, int part) {
        int[][] file = which == 'o' ? outs : temporaries;
        need(k >= 0 && k < file.length && part >= 0 && part < 4);
        return file[k][part];
    }

    int fault(int w) {
        return w == 0 ? fault : w == 1 ? place : -1;
    }

    boolean killed() {
        return killed;
    }

    int load(int from, int many, boolean places) {
        need(many >= 1 && many <= 256 && from >= 0 && from + 3L * many <= 1024);
        int[][] p = new int[many][];
        for (int i = 0; i < many; i++) {
            p[i] = Arrays.copyOfRange(memory, from + 3 * i, from + 3 * i + 3);
        }
        fault = 0;
        place = -1;
        BigInteger steps = check(p, places);
        if (fault != 0) {
            throw new IllegalArgumentException();
        }
        program = p;
        return steps.intValueExact();
    }

    private static int bits(int word, int low, int high) {
        return word << (31 - high) >>> (31 - high + low);
    }

    private static int kind(int[] instruction) {
        return bits(instruction[0], 0, 5);
    }

    private static int number(int[] instruction) {
        return bits(instruction[0], 17, 31);
    }

    private BigInteger check(int[][] p, boolean places) {
        for (int i = 0; i < p.length; i++) {
            for (int f = 1; f <= 7; f++) {
                if (has(f, p, i, places)) {
                    return refuse(f, i);
                }
            }
        }
        for (int i = p.length - 1; i >= 0; i--) {
            if (kind(p[i]) == 34 && partner(p, i) < 0) {
                return refuse(5, i);
            }
        }
        for (int i = 0; i < p.length; i++) {
            if ((kind(p[i]) == 36 || kind(p[i]) == 37) && loopOf(p, i) != loopOf(p, number(p[i]))) {
                return refuse(5, i);
            }
        }
        BigInteger steps = BigInteger.ZERO;
        for (int i = 0; i < p.length; i++) {
            steps = steps.add(times(p, i));
        }
        return steps.compareTo(ONE) > 0 ? refuse(8, -1) : steps;
    }

    private BigInteger refuse(int f, int i) {
        fault = f;
        place = i;
        return null;
    }

    private static boolean has(int f, int[][] p, int i, boolean places) {
        int kind = kind(p[i]);
        int n = number(p[i]);
        switch (f) {
            case 1: return kind > 40;
            case 2: return wrongTarget(kind, p[i][0]);
            case 3: return wrongSources(kind, p[i]);
            case 4:
                if (kind == 36 || kind == 37) {
                    return !(n > i && n < p.length);
                }
                return kind == 34 ? !(n >= 1 && n <= 255) : kind == 32 || kind == 33 ? n > 3 : n != 0;
            case 5: return kind == 35 && openBefore(p, i) < 1 || kind == 34 && openBefore(p, i) >= 4;
            case 6: return kind == 0 && i < p.length - 1 || kind != 0 && i == p.length - 1;
            default: return kind == 38 && !places;
        }
    }

    private static boolean wrongTarget(int kind, int first) {
        if (!Code.hasTarget(kind)) {
            return bits(first, 6, 16) != 0;
        }
        int file = bits(first, 6, 7);
        return file > 1 || file == 1 && bits(first, 8, 11) > 7 || bits(first, 12, 15) == 0;
    }

    private static boolean wrongSources(int kind, int[] instruction) {
        int[] s = {bits(instruction[1], 0, 15), bits(instruction[1], 16, 31), bits(instruction[2], 0, 15)};
        for (int j = 0; j < 3; j++) {
            int number = bits(s[j], 2, 6);
            int[] highest = {15, 7, 31, 0};
            if (j < Code.sources(kind) ? number > highest[bits(s[j], 0, 1)] : s[j] != 0) {
                return true;
            }
        }
        return bits(instruction[2], 16, 31) != 0;
    }

    /** LOOPs less ENDLOOPs before i: what comes before has no fault of its own. */
    private static int openBefore(int[][] p, int i) {
        int open = 0;
        for (int j = 0; j < i; j++) {
            open += kind(p[j]) == 34 ? 1 : kind(p[j]) == 35 ? -1 : 0;
        }
        return open;
    }

    /** The ENDLOOP of the LOOP at i, -1 if it has none. */
    private static int partner(int[][] p, int i) {
        int open = 0;
        for (int j = i; j < p.length; j++) {
            open += kind(p[j]) == 34 ? 1 : kind(p[j]) == 35 ? -1 : 0;
            if (open == 0) {
                return j;
            }
        }
        return -1;
    }

    /** The LOOP of the innermost loop that i is in, -1 for none. */
    private static int loopOf(int[][] p, int i) {
        for (int j = i - 1; j >= 0; j--) {
            if (kind(p[j]) == 34 && partner(p, j) >= i) {
                return j;
            }
        }
        return -1;
    }

    private static BigInteger times(int[][] p, int i) {
        int loop = loopOf(p, i);
        return loop < 0 ? BigInteger.ONE : times(p, loop).multiply(BigInteger.valueOf(number(p[loop])));
    }

    int run() {
        if (program == null) {
            throw new IllegalStateException();
        }
        for (int[] v : temporaries) {
            Arrays.fill(v, 0);
        }
        for (int[] v : outs) {
            Arrays.fill(v, 0);
        }
        killed = false;
        done = 0;
        perform(0, program.length);
        return done;
    }

    /** Does the instructions from .. to - 1, each loop as a call of this: false if it was killed. */
    private boolean perform(int from, int to) {
        int i = from;
        while (i < to) {
            done++;
            int[] at = program[i];
            int kind = kind(at);
            int[] a = source(bits(at[1], 0, 15));
            if (kind == 34) {
                int end = partner(program, i);
                for (int n = 0; n < number(at); n++) {
                    if (!perform(i + 1, end + 1)) {
                        return false;
                    }
                }
                i = end + 1;
            } else if (kind == 37 || kind == 36 && a[0] <= 0) {
                i = number(at);
            } else if (kind == 38 && Arrays.stream(a).anyMatch(x -> x < 0)) {
                killed = true;
                return false;
            } else {
                if (Code.hasTarget(kind)) {
                    set(at, answer(kind, number(at), a, source(bits(at[1], 16, 31)), source(bits(at[2], 0, 15))));
                }
                i++;
            }
        }
        return true;
    }

    private int[] source(int s) {
        int file = bits(s, 0, 1);
        int number = bits(s, 2, 6);
        int[] from = file == 0 ? temporaries[number] : file == 1 ? ins[number] : file == 2 ? uniforms[number] : new int[4];
        int[] parts = new int[4];
        for (int j = 0; j < 4; j++) {
            int v = from[bits(s, 7 + 2 * j, 8 + 2 * j)];
            parts[j] = bits(s, 15, 15) == 1 ? 0 - v : v;
        }
        return parts;
    }

    private void set(int[] at, int[] result) {
        int[] target = (bits(at[0], 6, 7) == 1 ? outs : temporaries)[bits(at[0], 8, 11)];
        for (int j = 0; j < 4; j++) {
            if (bits(at[0], 12 + j, 12 + j) == 1) {
                boolean kept = bits(at[0], 16, 16) == 1;
                target[j] = !kept ? result[j] : result[j] < 0 ? 0 : result[j] > 65536 ? 65536 : result[j];
            }
        }
    }

    private static BigInteger big(int a) {
        return BigInteger.valueOf(a);
    }

    /** a / b, down, for b above 0 or below. */
    private static BigInteger down(BigInteger a, BigInteger b) {
        BigInteger[] both = a.divideAndRemainder(b);
        return both[1].signum() != 0 && both[1].signum() != b.signum() ? both[0].subtract(BigInteger.ONE) : both[0];
    }

    private static int product(int a, int b) {
        return down(big(a).multiply(big(b)), ONE).intValue();
    }

    private static int quotientOfOne(int b) {
        if (b == 0) {
            return MOST;
        }
        return down(ONE.multiply(ONE), big(b)).max(big(Integer.MIN_VALUE)).min(big(MOST)).intValueExact();
    }

    private static int rootOfReciprocal(int a) {
        return a <= 0 ? MOST : TWO_TO_48.divide(big(a)).sqrt().intValueExact();
    }

    private static int root(int a) {
        return a < 0 ? 0 : ONE.multiply(big(a)).sqrt().intValueExact();
    }

    private static int[] all(int v) {
        return new int[] {v, v, v, v};
    }

    private int word(int k) {
        return k >= 0 && k < 1024 ? memory[k] : 0;
    }

    private int[] answer(int kind, int n, int[] a, int[] b, int[] c) {
        int k = a[0] >> 16;
        switch (kind) {
            case 6: return all(product(a[0], b[0]) + product(a[1], b[1]) + product(a[2], b[2]));
            case 7: return all(product(a[0], b[0]) + product(a[1], b[1]) + product(a[2], b[2]) + product(a[3], b[3]));
            case 13: return all(quotientOfOne(a[0]));
            case 14: return all(rootOfReciprocal(a[0]));
            case 15: return all(root(a[0]));
            case 22: return new int[] {
                product(a[1], b[2]) - product(a[2], b[1]),
                product(a[2], b[0]) - product(a[0], b[2]),
                product(a[0], b[1]) - product(a[1], b[0]), 0};
            case 30: return k >= 0 && k < 32 ? uniforms[k].clone() : new int[4];
            case 31: return new int[] {word(k), word(k + 1), word(k + 2), word(k + 3)};
            case 32:
            case 33:
                int[] t = textures[n];
                return new int[] {t[0] + a[0], t[1] + a[1], t[2] + (kind == 33 ? a[2] : 0), t[3]};
            default:
                int[] r = new int[4];
                for (int j = 0; j < 4; j++) {
                    r[j] = part(kind, a[j], b[j], c[j]);
                }
                return r;
        }
    }

    private static int part(int kind, int a, int b, int c) {
        switch (kind) {
            case 1: return a;
            case 2: return big(a).add(big(b)).intValue();
            case 3: return big(a).subtract(big(b)).intValue();
            case 4: return product(a, b);
            case 5: return product(a, b) + c;
            case 8: return a < b ? a : b;
            case 9: return a < b ? b : a;
            case 10: return big(a).abs().min(big(MOST)).intValueExact();
            case 11: return down(big(a), ONE).multiply(ONE).intValueExact();
            case 12: return big(a).mod(ONE).intValueExact();
            case 16: return a < b ? 65536 : 0;
            case 17: return a < b ? 0 : 65536;
            case 18: return a == b ? 65536 : 0;
            case 19: return a == b ? 0 : 65536;
            case 20: return a >= 0 ? b : c;
            case 21: return product(a, b - c) + c;
            case 23: return big(a).and(big(b)).intValueExact();
            case 24: return big(a).or(big(b)).intValueExact();
            case 25: return big(a).xor(big(b)).intValueExact();
            case 26: return big(a).not().intValueExact();
            case 27: return big(a).shiftLeft(Math.floorMod(b, 32)).intValue();
            case 28: return big(a).shiftRight(Math.floorMod(b, 32)).intValueExact();
            case 29: return big(a).mod(BigInteger.ONE.shiftLeft(32)).shiftRight(Math.floorMod(b, 32)).intValue();
            case 39: return down(big(a), ONE).intValueExact();
            case 40: return big(a).multiply(ONE).intValue();
            default: throw new AssertionError("kind " + kind);
        }
    }
}
