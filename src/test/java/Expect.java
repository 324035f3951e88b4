/** Counts answers that are not the ones that are due. */
final class Expect {
    private static int asked = 0;
    private static int wrong = 0;

    interface Call {
        void make();
    }

    private Expect() { }

    static int asked() {
        return asked;
    }

    static int wrong() {
        return wrong;
    }

    static void is(String what, long got, long due) {
        asked++;
        if (got != due) {
            wrong++;
            System.out.println(what + " answered " + got + ", due is " + due);
        }
    }

    static void holds(String what, boolean got) {
        is(what, got ? 1 : 0, 1);
    }

    static void index(String what, Call call) {
        throwsJust(what, IndexOutOfBoundsException.class, call);
    }

    static void argument(String what, Call call) {
        throwsJust(what, IllegalArgumentException.class, call);
    }

    static void state(String what, Call call) {
        throwsJust(what, IllegalStateException.class, call);
    }

    /** The very class, for what the Java machine throws by itself is often a class below it. */
    private static void throwsJust(String what, Class<?> due, Call call) {
        asked++;
        Class<?> got = null;
        try {
            call.make();
        } catch (RuntimeException e) {
            got = e.getClass();
        }
        if (got != due) {
            wrong++;
            System.out.println(what + " threw " + got + ", due is " + due);
        }
    }

    static void vector(String what, int[] got, int x, int y, int z, int w) {
        is(what + ".x", got[0], x);
        is(what + ".y", got[1], y);
        is(what + ".z", got[2], z);
        is(what + ".w", got[3], w);
    }

    static void end() {
        System.out.println(asked + " answers, " + wrong + " not as due");
        if (wrong != 0 || asked == 0) {
            System.exit(1);
        }
    }
}
