import java.util.Random;

/** Long runs of calls, the same ones each time, against the model. */
public final class ModelTest {
    private static final int OBJECTS = 8000;
    private static final int CALLS = 512;
    private static final int LOOKS = 48;
    private static final int[] EDGES = {
        0, 1, -1, 2, -2, 65535, 65536, 65537, -65536, Integer.MAX_VALUE, Integer.MIN_VALUE, 131072, 32768, 0x7FFF0000,
    };

    private final Random random;
    private ShaderMachine machine;
    private Model model;
    private int calls = 0;
    private int loaded = 0;
    private final int[] faults = new int[9];
    private final int[] kindsRun = new int[41];
    private int kills = 0;

    private interface Answer {
        long of();
    }

    private ModelTest(long seed) {
        random = new Random(seed);
    }

    public static void main(String[] args) {
        ModelTest test = new ModelTest(20261115);
        for (int i = 0; i < OBJECTS; i++) {
            test.oneObject();
        }
        Expect.holds("programs were loaded: " + test.loaded, test.loaded > OBJECTS);
        for (int f = 0; f <= 8; f++) {
            Expect.holds("fault " + f + " was met: " + test.faults[f], test.faults[f] > 20);
        }
        for (int kind = 0; kind <= 40; kind++) {
            Expect.holds("kind " + kind + " was loaded: " + test.kindsRun[kind], test.kindsRun[kind] > 20);
        }
        Expect.holds("runs were killed: " + test.kills, test.kills > 20);
        Expect.end();
    }

    private static String answered(Answer answer) {
        try {
            return Long.toString(answer.of());
        } catch (IndexOutOfBoundsException | IllegalStateException | IllegalArgumentException e) {
            return e.getClass().getName();
        }
    }

    /** The answer, which is the model's too; behind the last call that is promised none is asked. */
    private String same(String what, Answer got, Answer due) {
        if (calls == CALLS) {
            return "java: free";
        }
        calls++;
        String mine = answered(got);
        String models = answered(due);
        if (!mine.equals(models)) {
            System.out.println(what + " answered " + mine + ", due is " + models);
        }
        Expect.holds(what, mine.equals(models));
        return mine;
    }

    private void oneObject() {
        machine = new ShaderMachine();
        model = new Model();
        calls = 0;
        for (int k = 0; k < 3; k++) {
            tellSome();
        }
        for (int round = 0; round < 4; round++) {
            loadSome();
            tellSome();
            runAndLook();
            if (random.nextInt(4) == 0) {
                pokeBoth(random.nextInt(1200) - 100, value());
                runAndLook();
            }
        }
    }

    private int value() {
        switch (random.nextInt(4)) {
            case 0: return EDGES[random.nextInt(EDGES.length)];
            case 1: return random.nextInt();
            case 2: return random.nextInt(40 * 65536) - 4 * 65536;
            default: return random.nextInt(2000) - 1000;
        }
    }

    private int near(int many) {
        return random.nextInt(20) == 0 ? value() : random.nextInt(many + 2) - 1;
    }

    private void tellSome() {
        for (int i = 0; i < 6; i++) {
            int[] v = {value(), value(), value(), value()};
            int in = near(8);
            same("in", () -> { machine.in(in, v[0], v[1], v[2], v[3]); return 0; }, () -> { model.tell('i', in, v); return 0; });
            int uniform = near(32);
            same("uniform", () -> { machine.uniform(uniform, v[3], v[0], v[1], v[2]); return 0; },
                    () -> { model.tell('u', uniform, new int[] {v[3], v[0], v[1], v[2]}); return 0; });
            int texture = near(4);
            same("texture", () -> { machine.texture(texture, v[2], v[3], v[0], v[1]); return 0; },
                    () -> { model.tell('t', texture, new int[] {v[2], v[3], v[0], v[1]}); return 0; });
        }
    }

    private void pokeBoth(int k, int v) {
        same("poke", () -> { machine.poke(k, v); return 0; }, () -> { model.poke(k, v); return 0; });
    }

    private void loadSome() {
        int many = 1 + random.nextInt(random.nextInt(8) == 0 ? 40 : 14);
        int from = random.nextInt(20) == 0 ? 1024 - 3 * many + random.nextInt(3) - 1 : random.nextInt(200);
        int[] words = program(many);
        for (int i = 0; i < words.length; i++) {
            pokeBoth(from + i, words[i]);
        }
        boolean places = random.nextInt(5) != 0;
        String answer = same("load", () -> machine.load(from, many, places), () -> model.load(from, many, places));
        for (int w = -1; w < 3; w++) {
            int which = w;
            same("fault(" + w + ")", () -> machine.fault(which), () -> model.fault(which));
        }
        faults[model.fault(0)]++;
        if (!answer.startsWith("java")) {
            loaded++;
            for (int i = 0; i < many; i++) {
                kindsRun[words[3 * i] & 63]++;
            }
        }
    }

    /** Mostly right programs, with loops that mostly close and now and then a bit that is wrong. */
    private int[] program(int many) {
        int[] words = new int[3 * many];
        int open = 0;
        for (int i = 0; i < many - 1; i++) {
            int left = many - 1 - i;
            int kind = open >= left ? 35 : kind(open);
            open += kind == 34 ? 1 : kind == 35 ? -1 : 0;
            words[3 * i] = first(kind, i, many);
            int sources = Code.sources(kind);
            words[3 * i + 1] = (sources > 0 ? source() : 0) | (sources > 1 ? source() << 16 : 0);
            words[3 * i + 2] = sources > 2 ? source() : 0;
        }
        if (random.nextInt(3) == 0) {
            words[random.nextInt(words.length)] ^= 1 << random.nextInt(32);
        }
        if (random.nextInt(12) == 0) {
            System.arraycopy(words, 3 * random.nextInt(many), words, 3 * random.nextInt(many), 3);
        }
        return words;
    }

    private int kind(int open) {
        switch (random.nextInt(8)) {
            case 0: return open < 4 || random.nextInt(20) == 0 ? 34 : 35;
            case 1: return open > 0 || random.nextInt(20) == 0 ? 35 : 38;
            case 2: return 36 + random.nextInt(2);
            default: return plain();
        }
    }

    /** A kind that has a target. */
    private int plain() {
        int kind = 1 + random.nextInt(35);
        return kind > 33 ? kind + 5 : kind;
    }

    private int first(int kind, int i, int many) {
        if (kind == 34) {
            int most = random.nextInt(6) == 0 ? 256 : 6;
            return Code.numbered(kind, 1 + random.nextInt(most));
        }
        if (kind == 36 || kind == 37) {
            return Code.numbered(kind, i + 1 + random.nextInt(Math.max(1, Math.min(3, many - 1 - i))));
        }
        if (!Code.hasTarget(kind)) {
            return kind;
        }
        int parts = 1 + random.nextInt(15) | random.nextInt(16);
        int kept = random.nextInt(5) == 0 ? 1 << 16 : 0;
        int target = random.nextInt(3) == 0 ? 1 << 6 | random.nextInt(8) << 8 : random.nextInt(6) << 8;
        return Code.numbered(kind | target | parts << 12 | kept, kind == 32 || kind == 33 ? random.nextInt(4) : 0);
    }

    private int source() {
        int file = random.nextInt(4);
        int[] many = {6, 8, 32, 1};
        int number = random.nextInt(many[file]);
        return Code.source(file, number, random.nextInt(3) == 0 ? random.nextInt(256) : Code.XYZW, random.nextInt(4) == 0);
    }

    private void runAndLook() {
        same("run()", () -> machine.run(), () -> model.run());
        same("killed()", () -> machine.killed() ? 1 : 0, () -> model.killed() ? 1 : 0);
        kills += model.killed() ? 1 : 0;
        for (int i = 0; i < LOOKS; i++) {
            int part = random.nextInt(20) == 0 ? near(4) : random.nextInt(4);
            int out = near(8);
            int temporary = random.nextInt(3) == 0 ? near(16) : random.nextInt(6);
            if (random.nextInt(3) == 0) {
                same("out", () -> machine.out(out, part), () -> model.read('o', out, part));
            } else {
                same("temporary", () -> machine.temporary(temporary, part), () -> model.read('t', temporary, part));
            }
        }
    }
}
