import java.util.Arrays;

/** A machine for small checked programs over vectors of four fixed numbers. */
public final class ShaderMachine {
    public static final int NONE = -1;

    private final Store store;
    private final Check check;
    private final Runner runner;
    private Program current;
    private Program spare;

    public ShaderMachine() {
        store = new Store();
        check = new Check();
        runner = new Runner(store);
        current = new Program();
        spare = new Program();
    }

    public void poke(int k, int v) throws IndexOutOfBoundsException {
        if (!store.hasWord(k)) {
            throw new IndexOutOfBoundsException("no such word of memory");
        }
        store.setWord(k, v);
    }

    public int load(int from, int many, boolean places)
            throws IndexOutOfBoundsException, IllegalArgumentException {
        if (many < 1 || many > Program.MOST) {
            throw new IndexOutOfBoundsException("a program has 1 to 256 instructions");
        }
        if (from < 0 || from > Store.WORDS - Program.WIDTH * many) {
            throw new IndexOutOfBoundsException("the program's words are not all there");
        }
        // The program before must outlive a refused one, so the new one is read beside it.
        spare.read(store, from, many);
        check.examine(spare, places);
        if (check.found() != Check.FAULTLESS) {
            throw new IllegalArgumentException("the program has a fault");
        }
        Program before = current;
        current = spare;
        spare = before;
        return check.steps();
    }

    public int fault(int w) {
        if (w == 0) {
            return check.found();
        }
        return w == 1 ? check.place() : NONE;
    }

    public void in(int k, int x, int y, int z, int w) throws IndexOutOfBoundsException {
        mustHave(store.ins, k);
        store.ins.set(k, x, y, z, w);
    }

    public void uniform(int k, int x, int y, int z, int w) throws IndexOutOfBoundsException {
        mustHave(store.uniforms, k);
        store.uniforms.set(k, x, y, z, w);
    }

    public void texture(int k, int x, int y, int z, int w) throws IndexOutOfBoundsException {
        mustHave(store.textures, k);
        store.textures.set(k, x, y, z, w);
    }

    public int run() throws IllegalStateException {
        if (current.isEmpty()) {
            throw new IllegalStateException("there is no program");
        }
        return runner.perform(current);
    }

    public boolean killed() {
        return runner.wasKilled();
    }

    public int out(int k, int part) throws IndexOutOfBoundsException {
        mustHavePart(store.outs, k, part);
        return store.outs.part(k, part);
    }

    public int temporary(int k, int part) throws IndexOutOfBoundsException {
        mustHavePart(store.temporaries, k, part);
        return store.temporaries.part(k, part);
    }

    private static void mustHave(Vectors vectors, int k) {
        if (!vectors.has(k)) {
            throw new IndexOutOfBoundsException("no such vector");
        }
    }

    private static void mustHavePart(Vectors vectors, int k, int part) {
        if (!vectors.hasPart(k, part)) {
            throw new IndexOutOfBoundsException("no such vector or part");
        }
    }

    /** Arithmetic of fixed numbers: ints, 65,536 times what they stand for. */
    private static final class Fixed {
        static final int ONE = 65536;
        static final int MOST = 2147483647;
        static final int LEAST = -2147483648;

        private static final long SQUARE_OF_ONE = 1L << 32;
        private static final long CUBE_OF_ONE = 1L << 48;
        private static final long HIGHEST_ROOT_BIT = 1L << 24;

        static int product(int a, int b) {
            return (int) (((long) a * b) >> 16);
        }

        /** The quotient of ONE by b. */
        static int reciprocal(int b) {
            if (b == 0) {
                return MOST;
            }
            long whole = Math.floorDiv(SQUARE_OF_ONE, (long) b);
            return (int) Math.max(LEAST, Math.min(MOST, whole));
        }

        static int rootOfReciprocal(int a) {
            // r * r * a is not above 2^48 just when r * r is not above 2^48 / a, down.
            return a > 0 ? root(CUBE_OF_ONE / a) : MOST;
        }

        static int rootOf(int a) {
            return a > 0 ? root((long) a * ONE) : 0;
        }

        /** The greatest r with r * r not above square, for squares of 0 to 2^48. */
        private static int root(long square) {
            long r = 0;
            for (long bit = HIGHEST_ROOT_BIT; bit > 0; bit >>= 1) {
                long next = r + bit;
                if (next * next <= square) {
                    r = next;
                }
            }
            return (int) r;
        }

        static int withoutSign(int a) {
            if (a == LEAST) {
                return MOST;
            }
            return a < 0 ? -a : a;
        }

        static int truth(boolean holds) {
            return holds ? ONE : 0;
        }

        static int keptWithin(int a) {
            return Math.max(0, Math.min(ONE, a));
        }
    }

    /** A row of vectors; one that there isn't reads as 0 and is not written. */
    private static final class Vectors {
        static final int PARTS = 4;
        static final int IN_ORDER = 0b11100100;

        private final int many;
        private final int[] parts;

        Vectors(int many) {
            this.many = Math.max(0, many);
            this.parts = new int[PARTS * this.many];
        }

        boolean has(int k) {
            return k >= 0 && k < many;
        }

        boolean hasPart(int k, int part) {
            return k >= 0 && k < many && part >= 0 && part < PARTS;
        }

        int part(int k, int part) {
            return hasPart(k, part) ? parts[PARTS * k + part] : 0;
        }

        /** Sets into to the parts of vector k that picks tells, two bits for each, the lowest first. */
        void pick(int k, int picks, int[] into) {
            boolean isThere = has(k);
            for (int i = 0; i < into.length; i++) {
                into[i] = isThere ? parts[PARTS * k + (picks >> (2 * i) & 3)] : 0;
            }
        }

        void setPart(int k, int part, int v) {
            if (hasPart(k, part)) {
                parts[PARTS * k + part] = v;
            }
        }

        void set(int k, int x, int y, int z, int w) {
            setPart(k, 0, x);
            setPart(k, 1, y);
            setPart(k, 2, z);
            setPart(k, 3, w);
        }

        void clear() {
            Arrays.fill(parts, 0);
        }
    }

    /** All that programs read and write. */
    private static final class Store {
        static final int WORDS = 1024;
        static final int TEMPORARIES = 16;
        static final int INS = 8;
        static final int OUTS = 8;
        static final int UNIFORMS = 32;
        static final int TEXTURES = 4;

        private final int[] memory = new int[WORDS];
        private final Vectors temporaries = new Vectors(TEMPORARIES);
        private final Vectors ins = new Vectors(INS);
        private final Vectors outs = new Vectors(OUTS);
        private final Vectors uniforms = new Vectors(UNIFORMS);
        private final Vectors textures = new Vectors(TEXTURES);
        private final Vectors nothing = new Vectors(0);

        boolean hasWord(int k) {
            return k >= 0 && k < WORDS;
        }

        int word(int k) {
            return hasWord(k) ? memory[k] : 0;
        }

        void setWord(int k, int v) {
            if (hasWord(k)) {
                memory[k] = v;
            }
        }

        Vectors sourceFile(int file) {
            switch (file) {
                case Source.TEMPORARIES: return temporaries;
                case Source.INS: return ins;
                case Source.UNIFORMS: return uniforms;
                default: return nothing;
            }
        }

        Vectors targetFile(int file) {
            return file == Target.OUTS ? outs : temporaries;
        }
    }

    /** The kinds of instructions. */
    private static final class Kind {
        static final int END = 0;
        static final int COPY = 1;
        static final int SUM = 2;
        static final int DIFFERENCE = 3;
        static final int PRODUCT = 4;
        static final int PRODUCT_AND_SUM = 5;
        static final int DOT_OF_THREE = 6;
        static final int DOT_OF_FOUR = 7;
        static final int LESSER = 8;
        static final int GREATER = 9;
        static final int WITHOUT_SIGN = 10;
        static final int WHOLE = 11;
        static final int FRACTION = 12;
        static final int RECIPROCAL = 13;
        static final int ROOT_OF_RECIPROCAL = 14;
        static final int ROOT = 15;
        static final int IS_LESS = 16;
        static final int IS_NOT_LESS = 17;
        static final int IS_ALIKE = 18;
        static final int IS_NOT_ALIKE = 19;
        static final int CHOICE = 20;
        static final int MIXTURE = 21;
        static final int CROSS = 22;
        static final int AND = 23;
        static final int OR = 24;
        static final int ONE_ALONE = 25;
        static final int NOT = 26;
        static final int UP = 27;
        static final int DOWN = 28;
        static final int DOWN_WITHOUT_SIGN = 29;
        static final int UNIFORM_AT = 30;
        static final int WORDS_AT = 31;
        static final int TEXTURE = 32;
        static final int TEXTURE_AT_LEVEL = 33;
        static final int LOOP = 34;
        static final int ENDLOOP = 35;
        static final int GO_UNLESS_ABOVE = 36;
        static final int GO = 37;
        static final int KILL = 38;
        static final int TO_WHOLE = 39;
        static final int FROM_WHOLE = 40;
        static final int LAST = 40;

        private static final int[] SOURCES = {
            0, 1, 2, 2, 2, 3, 2, 2, 2, 2,
            1, 1, 1, 1, 1, 1, 2, 2, 2, 2,
            3, 3, 2, 2, 2, 2, 1, 2, 2, 2,
            1, 1, 1, 1, 0, 0, 1, 0, 1, 1,
            1,
        };

        static int sources(int kind) {
            return kind >= 0 && kind < SOURCES.length ? SOURCES[kind] : 0;
        }

        static boolean hasTarget(int kind) {
            return kind != END && (kind < LOOP || kind > KILL);
        }

        static boolean goes(int kind) {
            return kind == GO_UNLESS_ABOVE || kind == GO;
        }

        static boolean readsTexture(int kind) {
            return kind == TEXTURE || kind == TEXTURE_AT_LEVEL;
        }
    }

    /** The bits of a first word that tell of the target. */
    private static final class Target {
        static final int TEMPORARIES = 0;
        static final int OUTS = 1;
        static final int ALL_BITS = 0x1FFC0;

        static int file(int first) {
            return first >> 6 & 3;
        }

        static int number(int first) {
            return first >> 8 & 15;
        }

        static boolean setsAny(int first) {
            return (first >> 12 & 15) != 0;
        }

        static boolean sets(int first, int part) {
            return (first >> (12 + part) & 1) != 0;
        }

        static boolean isKeptWithin(int first) {
            return (first >> 16 & 1) != 0;
        }
    }

    /** The sixteen bits of a source. */
    private static final class Source {
        static final int TEMPORARIES = 0;
        static final int INS = 1;
        static final int UNIFORMS = 2;

        static int file(int source) {
            return source & 3;
        }

        static int number(int source) {
            return source >> 2 & 31;
        }

        static int picks(int source) {
            return source >> 7 & 0xFF;
        }

        static boolean isNegated(int source) {
            return (source >> 15 & 1) != 0;
        }
    }

    /** A program's words, apart from memory so that later pokes don't change them. */
    private static final class Program {
        static final int MOST = 256;
        static final int WIDTH = 3;

        private final int[] words = new int[WIDTH * MOST];
        private int many;

        void read(Store store, int from, int howMany) {
            many = Math.max(0, Math.min(MOST, howMany));
            for (int i = 0; i < WIDTH * many; i++) {
                words[i] = store.word(from + i);
            }
        }

        boolean isEmpty() {
            return many == 0;
        }

        int many() {
            return many;
        }

        int first(int place) {
            return has(place) ? words[WIDTH * place] : 0;
        }

        int second(int place) {
            return has(place) ? words[WIDTH * place + 1] : 0;
        }

        int third(int place) {
            return has(place) ? words[WIDTH * place + 2] : 0;
        }

        int kind(int place) {
            return first(place) & 63;
        }

        int number(int place) {
            return first(place) >>> 17;
        }

        private boolean has(int place) {
            return place >= 0 && place < many;
        }
    }

    /** The places of the loops that are open, outermost first, each with a count. */
    private static final class Loops {
        static final int DEEPEST = 4;

        private final int[] places = new int[DEEPEST];
        private final long[] counts = new long[DEEPEST];
        private int depth;

        void clear() {
            depth = 0;
        }

        boolean isEmpty() {
            return depth == 0;
        }

        boolean isFull() {
            return depth == DEEPEST;
        }

        void open(int place, long count) {
            if (depth >= 0 && depth < DEEPEST) {
                places[depth] = place;
                counts[depth] = count;
                depth++;
            }
        }

        void close() {
            if (depth > 0) {
                depth--;
            }
        }

        /** The place of the innermost loop, NONE outside of all. */
        int innermost() {
            return depth > 0 && depth <= DEEPEST ? places[depth - 1] : NONE;
        }

        /** The count of the innermost loop, 1 outside of all. */
        long count() {
            return depth > 0 && depth <= DEEPEST ? counts[depth - 1] : 1;
        }

        void setCount(long count) {
            if (depth > 0 && depth <= DEEPEST) {
                counts[depth - 1] = count;
            }
        }
    }

    /** The check of a program, with what the latest one found. */
    private static final class Check {
        static final int FAULTLESS = 0;
        static final int MOST_STEPS = 65536;

        private static final int OF_KIND = 1;
        private static final int OF_TARGET = 2;
        private static final int OF_SOURCES = 3;
        private static final int OF_NUMBER = 4;
        private static final int OF_LOOPS = 5;
        private static final int OF_END = 6;
        private static final int OF_PLACES = 7;
        private static final int OF_STEPS = 8;
        private static final int MOST_ROUNDS = 255;

        private final int[] loopOf = new int[Program.MOST];
        private final Loops loops = new Loops();
        private int fault = FAULTLESS;
        private int place = NONE;
        private long steps;

        int found() {
            return fault;
        }

        int place() {
            return place;
        }

        int steps() {
            return (int) Math.min(MOST_STEPS, steps);
        }

        void examine(Program program, boolean places) {
            tell(FAULTLESS, NONE);
            loops.clear();
            steps = 0;
            for (int i = 0; i < program.many(); i++) {
                int found = faultOf(program, i, places);
                if (found != FAULTLESS) {
                    tell(found, i);
                    return;
                }
                follow(program, i);
            }
            examineWhole(program);
        }

        private void examineWhole(Program program) {
            if (!loops.isEmpty()) {
                tell(OF_LOOPS, loops.innermost());
                return;
            }
            int stray = firstStray(program);
            if (stray != NONE) {
                tell(OF_LOOPS, stray);
            } else if (steps > MOST_STEPS) {
                tell(OF_STEPS, NONE);
            }
        }

        private void tell(int found, int where) {
            fault = found;
            place = where;
        }

        private int faultOf(Program program, int i, boolean places) {
            int kind = program.kind(i);
            if (kind > Kind.LAST) {
                return OF_KIND;
            }
            if (isTargetWrong(kind, program.first(i))) {
                return OF_TARGET;
            }
            if (areSourcesWrong(kind, program.second(i), program.third(i))) {
                return OF_SOURCES;
            }
            if (isNumberWrong(kind, program.number(i), i, program.many())) {
                return OF_NUMBER;
            }
            if (kind == Kind.ENDLOOP && loops.isEmpty() || kind == Kind.LOOP && loops.isFull()) {
                return OF_LOOPS;
            }
            if ((kind == Kind.END) != (i == program.many() - 1)) {
                return OF_END;
            }
            return kind == Kind.KILL && !places ? OF_PLACES : FAULTLESS;
        }

        private static boolean isTargetWrong(int kind, int first) {
            if (!Kind.hasTarget(kind)) {
                return (first & Target.ALL_BITS) != 0;
            }
            if (!Target.setsAny(first)) {
                return true;
            }
            switch (Target.file(first)) {
                case Target.TEMPORARIES: return Target.number(first) >= Store.TEMPORARIES;
                case Target.OUTS: return Target.number(first) >= Store.OUTS;
                default: return true;
            }
        }

        private static boolean areSourcesWrong(int kind, int second, int third) {
            int sources = Kind.sources(kind);
            return isSourceWrong(second & 0xFFFF, sources >= 1)
                    || isSourceWrong(second >>> 16, sources >= 2)
                    || isSourceWrong(third & 0xFFFF, sources >= 3)
                    || third >>> 16 != 0;
        }

        private static boolean isSourceWrong(int source, boolean isHad) {
            if (!isHad) {
                return source != 0;
            }
            int number = Source.number(source);
            switch (Source.file(source)) {
                case Source.TEMPORARIES: return number >= Store.TEMPORARIES;
                case Source.INS: return number >= Store.INS;
                case Source.UNIFORMS: return number >= Store.UNIFORMS;
                default: return number != 0;
            }
        }

        private static boolean isNumberWrong(int kind, int number, int i, int many) {
            if (Kind.goes(kind)) {
                return number <= i || number >= many;
            }
            if (kind == Kind.LOOP) {
                return number < 1 || number > MOST_ROUNDS;
            }
            if (Kind.readsTexture(kind)) {
                return number >= Store.TEXTURES;
            }
            return number != 0;
        }

        /** Counts a faultless instruction's steps and notes its loop; counts are of all loops around. */
        private void follow(Program program, int i) {
            if (i >= 0 && i < loopOf.length) {
                loopOf[i] = loops.innermost();
            }
            long times = loops.count();
            steps += times;
            if (program.kind(i) == Kind.LOOP) {
                loops.open(i, times * program.number(i));
            } else if (program.kind(i) == Kind.ENDLOOP) {
                loops.close();
            }
        }

        private int firstStray(Program program) {
            for (int i = 0; i < program.many(); i++) {
                if (Kind.goes(program.kind(i)) && loopAt(i) != loopAt(program.number(i))) {
                    return i;
                }
            }
            return NONE;
        }

        private int loopAt(int i) {
            return i >= 0 && i < loopOf.length ? loopOf[i] : NONE;
        }
    }

    /** Runs checked programs over a store. */
    private static final class Runner {
        private final Store store;
        private final int[] a = new int[Vectors.PARTS];
        private final int[] b = new int[Vectors.PARTS];
        private final int[] c = new int[Vectors.PARTS];
        private final int[] result = new int[Vectors.PARTS];
        private final Loops loops = new Loops();
        private int place;
        private boolean isKilled;

        Runner(Store store) {
            this.store = store;
        }

        boolean wasKilled() {
            return isKilled;
        }

        int perform(Program program) {
            store.temporaries.clear();
            store.outs.clear();
            loops.clear();
            place = 0;
            isKilled = false;
            int done = 0;
            boolean goesOn = true;
            while (goesOn && done < Check.MOST_STEPS) {
                done++;
                goesOn = step(program);
            }
            return done;
        }

        /** Does the instruction at place: whether the program goes on behind it. */
        private boolean step(Program program) {
            int here = place;
            int kind = program.kind(here);
            int number = program.number(here);
            place = here + 1;
            readSources(program, here, Kind.sources(kind));
            switch (kind) {
                case Kind.END:
                    return false;
                case Kind.LOOP:
                    loops.open(here, number);
                    return true;
                case Kind.ENDLOOP:
                    endRound();
                    return true;
                case Kind.GO_UNLESS_ABOVE:
                    place = a[0] > 0 ? place : number;
                    return true;
                case Kind.GO:
                    place = number;
                    return true;
                case Kind.KILL:
                    isKilled = a[0] < 0 || a[1] < 0 || a[2] < 0 || a[3] < 0;
                    return !isKilled;
                default:
                    compute(kind, number);
                    setTarget(program.first(here));
                    return true;
            }
        }

        private void endRound() {
            long left = loops.count() - 1;
            if (left > 0) {
                loops.setCount(left);
                place = loops.innermost() + 1;
            } else {
                loops.close();
            }
        }

        private void readSources(Program program, int here, int sources) {
            if (sources >= 1) {
                readSource(program.second(here) & 0xFFFF, a);
            }
            if (sources >= 2) {
                readSource(program.second(here) >>> 16, b);
            }
            if (sources >= 3) {
                readSource(program.third(here) & 0xFFFF, c);
            }
        }

        private void readSource(int source, int[] into) {
            Vectors file = store.sourceFile(Source.file(source));
            file.pick(Source.number(source), Source.picks(source), into);
            if (Source.isNegated(source)) {
                negate(into);
            }
        }

        private static void negate(int[] parts) {
            for (int i = 0; i < parts.length; i++) {
                parts[i] = -parts[i];
            }
        }

        private void setTarget(int first) {
            Vectors file = store.targetFile(Target.file(first));
            int number = Target.number(first);
            boolean isKept = Target.isKeptWithin(first);
            for (int i = 0; i < Vectors.PARTS; i++) {
                if (Target.sets(first, i)) {
                    file.setPart(number, i, isKept ? Fixed.keptWithin(result[i]) : result[i]);
                }
            }
        }

        private void compute(int kind, int number) {
            switch (kind) {
                case Kind.DOT_OF_THREE: spread(dot(3)); break;
                case Kind.DOT_OF_FOUR: spread(dot(4)); break;
                case Kind.RECIPROCAL: spread(Fixed.reciprocal(a[0])); break;
                case Kind.ROOT_OF_RECIPROCAL: spread(Fixed.rootOfReciprocal(a[0])); break;
                case Kind.ROOT: spread(Fixed.rootOf(a[0])); break;
                case Kind.CROSS: cross(); break;
                case Kind.UNIFORM_AT: store.uniforms.pick(a[0] >> 16, Vectors.IN_ORDER, result); break;
                case Kind.WORDS_AT: takeWords(a[0] >> 16); break;
                case Kind.TEXTURE: takeTexture(number, 0); break;
                case Kind.TEXTURE_AT_LEVEL: takeTexture(number, a[2]); break;
                default: computeParts(kind); break;
            }
        }

        private void spread(int v) {
            Arrays.fill(result, v);
        }

        private void setResult(int x, int y, int z, int w) {
            result[0] = x;
            result[1] = y;
            result[2] = z;
            result[3] = w;
        }

        private int dot(int parts) {
            int sum = 0;
            for (int i = 0; i < parts && i < Vectors.PARTS; i++) {
                sum += Fixed.product(a[i], b[i]);
            }
            return sum;
        }

        private void cross() {
            setResult(
                    Fixed.product(a[1], b[2]) - Fixed.product(a[2], b[1]),
                    Fixed.product(a[2], b[0]) - Fixed.product(a[0], b[2]),
                    Fixed.product(a[0], b[1]) - Fixed.product(a[1], b[0]),
                    0);
        }

        private void takeWords(int k) {
            for (int i = 0; i < Vectors.PARTS; i++) {
                result[i] = store.word(k + i);
            }
        }

        private void takeTexture(int k, int level) {
            Vectors textures = store.textures;
            setResult(
                    textures.part(k, 0) + a[0],
                    textures.part(k, 1) + a[1],
                    textures.part(k, 2) + level,
                    textures.part(k, 3));
        }

        private void computeParts(int kind) {
            for (int i = 0; i < Vectors.PARTS; i++) {
                result[i] = ofParts(kind, a[i], b[i], c[i]);
            }
        }

        private static int ofParts(int kind, int a, int b, int c) {
            switch (kind) {
                case Kind.COPY: return a;
                case Kind.SUM: return a + b;
                case Kind.DIFFERENCE: return a - b;
                case Kind.PRODUCT: return Fixed.product(a, b);
                case Kind.PRODUCT_AND_SUM: return Fixed.product(a, b) + c;
                case Kind.LESSER: return Math.min(a, b);
                case Kind.GREATER: return Math.max(a, b);
                case Kind.WITHOUT_SIGN: return Fixed.withoutSign(a);
                case Kind.IS_LESS: return Fixed.truth(a < b);
                case Kind.IS_NOT_LESS: return Fixed.truth(a >= b);
                case Kind.IS_ALIKE: return Fixed.truth(a == b);
                case Kind.IS_NOT_ALIKE: return Fixed.truth(a != b);
                case Kind.CHOICE: return a >= 0 ? b : c;
                case Kind.MIXTURE: return Fixed.product(a, b - c) + c;
                default: return ofBits(kind, a, b);
            }
        }

        private static int ofBits(int kind, int a, int b) {
            switch (kind) {
                case Kind.WHOLE: return a & 0xFFFF0000;
                case Kind.FRACTION: return a & 0xFFFF;
                case Kind.AND: return a & b;
                case Kind.OR: return a | b;
                case Kind.ONE_ALONE: return a ^ b;
                case Kind.NOT: return ~a;
                case Kind.UP: return a << (b & 31);
                case Kind.DOWN: return a >> (b & 31);
                case Kind.DOWN_WITHOUT_SIGN: return a >>> (b & 31);
                case Kind.TO_WHOLE: return a >> 16;
                case Kind.FROM_WHOLE: return a << 16;
                default: return 0;
            }
        }
    }
}
