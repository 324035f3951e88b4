import com.sun.management.ThreadMXBean;
import java.lang.management.ManagementFactory;

/** All calls of a run live in one room: an object takes little of it, and calls that throw nothing take none. */
public final class RoomTest {
    private static final ThreadMXBean THREADS = (ThreadMXBean) ManagementFactory.getThreadMXBean();
    private static final int OBJECTS = 200;
    private static final int MOST_BYTES_OF_AN_OBJECT = 16384;
    /** The measuring itself and the Java machine's own loading take a little. */
    private static final int SLACK = 65536;

    public static void main(String[] args) {
        ShaderMachine[] machines = new ShaderMachine[OBJECTS];
        useAll(new ShaderMachine[] {new ShaderMachine()});
        long before = bytes();
        for (int i = 0; i < OBJECTS; i++) {
            machines[i] = new ShaderMachine();
        }
        long made = bytes();
        useAll(machines);
        long used = bytes();
        Expect.holds("an object takes " + (made - before) / OBJECTS + " bytes",
                made - before < (long) OBJECTS * MOST_BYTES_OF_AN_OBJECT);
        Expect.holds("the calls take " + (used - made) + " bytes", used - made < SLACK);
        Expect.end();
    }

    private static long bytes() {
        return THREADS.getThreadAllocatedBytes(Thread.currentThread().getId());
    }

    private static void useAll(ShaderMachine[] machines) {
        for (ShaderMachine m : machines) {
            use(m);
        }
    }

    /** Each call of the face, with a program of a loop, a texture, a root, a quotient and words of memory. */
    private static void use(ShaderMachine m) {
        m.poke(0, Code.numbered(Code.LOOP, 40));
        m.poke(3, Code.numbered(Code.toOut(33, 0), 3));
        m.poke(4, Code.in(0));
        m.poke(6, Code.toOut(15, 1));
        m.poke(7, Code.in(0));
        m.poke(9, Code.toTemporary(13, 0));
        m.poke(10, Code.in(0));
        m.poke(12, Code.toTemporary(31, 1));
        m.poke(13, Code.in(0));
        m.poke(15, Code.ENDLOOP);
        m.in(0, 262144, 1, 2, 3);
        m.uniform(31, 1, 2, 3, 4);
        m.texture(3, 1, 2, 3, 4);
        int sum = 0;
        for (int i = 0; i < 50; i++) {
            sum += m.load(0, 7, i % 2 == 0) + m.run() + m.fault(0) + m.fault(1);
            sum += m.out(1, 3) + m.temporary(0, 2) + (m.killed() ? 1 : 0);
        }
        // 202 steps each, the root of 4 and the quotient of 1 by 4
        Expect.is("the sum of the answers", sum, 50 * (202 + 202 - 1 + 131072 + 16384));
    }
}
