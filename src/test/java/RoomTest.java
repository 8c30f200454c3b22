import com.sun.management.ThreadMXBean;
import java.lang.management.ManagementFactory;
import java.util.function.IntConsumer;
import java.util.function.ObjIntConsumer;

/**
 * All calls of one run live in one room, in which nothing is ever thrown away: 600,000 objects and 7.3 million
 * elements. So no call may make anything, but for a new object, a saved game and an exception.
 */
public final class RoomTest {
    private static final int CALLS = 480;
    /** Some for what the machine itself makes beside the calls. */
    private static final long SLACK = 20_000;

    private static final ThreadMXBean BEAN = (ThreadMXBean) ManagementFactory.getThreadMXBean();
    private static int wrong = 0;

    public static void main(String[] args) {
        due("digest()", (w, i) -> w.digest());
        due("ahead(40)", (w, i) -> w.ahead(40));
        due("follow(1)", (w, i) -> w.follow(1));
        due("plan()", (w, i) -> w.plan(i % 10));
        due("worth()", (w, i) -> w.worth(i % 10, i % 8));
        due("way()", (w, i) -> w.way(i % 10, i % 160));
        due("many()", (w, i) -> w.many(i % 9));
        due("danger()", (w, i) -> w.danger(i % 2, i % 160));
        due("meanLife()", (w, i) -> w.meanLife());
        due("dig()", (w, i) -> w.dig(1 + i % 4, 1, 10, 8));
        due("set()", (w, i) -> w.set(17 + i % 14, 3));
        due("act(0)", (w, i) -> w.act(0));
        due("load(0)", (w, i) -> w.load(0));
        // Some 1,500 elements; with five saved games 4,100: even 512 of these stay under the 7.3 million.
        long each = made(i -> new Warren()) / CALLS;
        if (each > 7000) {
            wrong++;
            System.out.println("RoomTest: a new object takes " + each + " bytes");
        }
        System.out.println("RoomTest: " + wrong + " wrong; a new object takes " + each + " bytes");
        if (wrong != 0) {
            System.exit(1);
        }
    }

    private static Warren full() {
        Warren warren = new Warren();
        warren.dig(1, 1, 14, 8);
        for (int being = 0; being < 10; being++) {
            warren.come(being % 2, (1 + being % 8) * 16 + 1 + being, 60);
            warren.become(being, 0, 20, 1 + being % 4);
        }
        warren.save();
        return warren;
    }

    private static long made(IntConsumer call) {
        call.accept(0);
        long thread = Thread.currentThread().getId();
        long before = BEAN.getThreadAllocatedBytes(thread);
        for (int i = 0; i < CALLS; i++) {
            call.accept(i);
        }
        return BEAN.getThreadAllocatedBytes(thread) - before;
    }

    private static void due(String name, ObjIntConsumer<Warren> call) {
        Warren warren = full();
        long made = made(i -> call.accept(warren, i));
        if (made > SLACK) {
            wrong++;
            System.out.println("RoomTest: " + CALLS + " calls of " + name + " make " + made + " bytes");
        }
    }
}
