import com.sun.management.ThreadMXBean;
import java.lang.management.ManagementFactory;

/** All calls of one run must live in one room, so that a call that makes much is found here. */
final class RoomTest {
    private static final int CALLS = 512;
    /** 7.3 million fields and elements, of 8 bytes at the most. The bound here is far below it. */
    private static final long MOST_BYTES = 1_000_000;

    interface Step {
        void call(Speedrunnery x, int i);
    }

    private static long answers = 0;

    private static long bytesOf(Step step) {
        ThreadMXBean bean = (ThreadMXBean) ManagementFactory.getThreadMXBean();
        long before = bean.getThreadAllocatedBytes(Thread.currentThread().getId());
        Speedrunnery x = full();
        for (int i = 0; i < CALLS; i++) {
            step.call(x, i);
        }
        return bean.getThreadAllocatedBytes(Thread.currentThread().getId()) - before;
    }

    /** All doors, items, categories, inputs and runs that there can be. */
    private static Speedrunnery full() {
        Speedrunnery x = new Speedrunnery();
        for (int i = 0; i < 8; i++) {
            x.putItem(i + 1, i);
            x.door(0, i + 1, 10, 1, 0, -1);
            x.door(i + 1, 0, 10, 1, 0, -1);
            x.door(i + 1, 0, 9, 1, 0, i);
        }
        for (int i = 0; i < 5; i++) {
            x.category();
            x.rule(i, i, 0, i, 'r');
            x.split(i, 1);
        }
        for (int i = 0; i < 40; i++) {
            x.input(i % 16 / 2 * 3 + i % 2);
        }
        for (int i = 0; i < 24; i++) {
            x.verify(x.submit(0, i % 5), 1);
            x.verify(i, 2);
        }
        return x;
    }

    private static void holds(String what, Step step) {
        long bytes = bytesOf(step);
        Check.is("bytes of " + what + ", " + bytes + ", are few", true, () -> bytes <= MOST_BYTES);
    }

    public static void main(String[] args) {
        full();
        holds("playing", (x, i) -> answers += x.play() + x.ticks('r'));
        holds("spheres", (x, i) -> answers += x.spheres() + x.sphereOf(1));
        holds("rules", (x, i) -> answers += x.rule(i % 5, 255, i % 12, i % 256, 'g'));
        holds("rules day by day", (x, i) -> answers += i % 2 == 0 ? x.nextDay(1) : x.rule(0, 0, 0, 0, 'r'));
        holds("judging", (x, i) -> answers += x.judge(1));
        holds("golds", (x, i) -> answers += x.gold(1, 1) + x.best(2));
        holds("routes", (x, i) -> answers += x.route(0) + x.routeAt(0, i) + (x.isShortest(0) ? 1 : 0));
        holds("boards", (x, i) -> answers += x.ranked(0, 3, false) + x.recordOn(0, 0) + x.stood(0, 0));
        holds("means", (x, i) -> answers += (long) (x.meanTime(0) + x.verifiedShare()));
        holds("soundness", (x, i) -> answers += x.isSound() ? 1 : 0);
        Check.is("something was answered", true, () -> answers != 0);
        Check.end();
    }
}
