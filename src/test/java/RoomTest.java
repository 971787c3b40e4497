import com.sun.management.ThreadMXBean;
import java.lang.management.ManagementFactory;

/** An object's 512 calls live in one room, so they may not make rows again and again. */
final class RoomTest {
    private static final int CALLS = 512;

    /** Far below the 7.3 million elements of the room, in bytes. */
    private static final long MOST_BYTES = 600_000;

    private static final Expect expect = new Expect();

    public static void main(String[] args) {
        ThreadMXBean bean = (ThreadMXBean) ManagementFactory.getThreadMXBean();
        long id = Thread.currentThread().getId();
        for (int round = 0; round < 2; round++) {
            long start = bean.getThreadAllocatedBytes(id);
            beginAgainAndAgain();
            long begun = bean.getThreadAllocatedBytes(id);
            beginLargerAndLarger();
            long grown = bean.getThreadAllocatedBytes(id);
            splitAndJoin();
            long joined = bean.getThreadAllocatedBytes(id);
            // The first round also loads classes.
            if (round == 1) {
                expect.isTrue("begin: " + (begun - start) + " bytes", begun - start < MOST_BYTES);
                expect.isTrue("larger: " + (grown - begun) + " bytes", grown - begun < MOST_BYTES);
                expect.isTrue("split, join: " + (joined - grown) + " bytes", joined - grown < MOST_BYTES);
            }
        }
        expect.end();
    }

    private static void beginAgainAndAgain() {
        PlaneSplitter p = new PlaneSplitter();
        for (int i = 0; i < CALLS - 1; i++) {
            p.begin(i, i, 128, 128, 20, i % 2 == 0);
        }
        expect.equal("the 512th call: all 0", p.sum(), 0);
    }

    private static void beginLargerAndLarger() {
        PlaneSplitter p = new PlaneSplitter();
        for (int i = 0; i < CALLS - 1; i++) {
            p.begin(i, i, 2 * i + 1, 16, 20, i % 2 == 0);
        }
        expect.equal("the 512th call: all 0", p.sum(), 0);
    }

    private static void splitAndJoin() {
        PlaneSplitter p = new PlaneSplitter();
        p.begin(77, 99, 1024, 16, 20, false);
        p.fill(3, 5, 7);
        int due = p.sum();
        for (int i = 0; i < (CALLS - 4) / 2; i++) {
            p.split();
            p.join(20);
        }
        expect.equal("the 512th call: the same numbers", p.sum(), due);
    }
}
