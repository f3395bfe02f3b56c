import com.sun.management.ThreadMXBean;
import java.lang.management.ManagementFactory;

/**
 * What a run makes fits into its room. A field or element takes a byte at least and an object
 * sixteen, so a run that makes no more bytes than the room has elements keeps both of its bounds.
 */
public final class RoomTest {
    private static final long ELEMENTS = 7_300_000;
    private static final int CLIENTS = 5;
    private static final int TURNS_OF_A_CLIENT = 6;

    private final Checks checks = new Checks();
    private final ThreadMXBean meter = (ThreadMXBean) ManagementFactory.getThreadMXBean();
    private long madeBefore;

    public static void main(String[] args) {
        RoomTest test = new RoomTest();
        for (Sizes sizes : Sizes.ALL) {
            test.operationsWithoutEnd(sizes);
        }
        test.looksAndRefusals();
        test.newObjects();
        test.checks.end();
    }

    private void start() {
        madeBefore = meter.getCurrentThreadAllocatedBytes();
    }

    private void fits(String run) {
        long made = meter.getCurrentThreadAllocatedBytes() - madeBefore;
        checks.due(run + " made " + made + " bytes", made > 0 && made <= ELEMENTS, true);
    }

    /** The clients write and read by turns, and each letter is heard soon, so that most are made. */
    private void operationsWithoutEnd(Sizes sizes) {
        start();
        Run x = sizes.run(3);
        int turn = 0;
        while (x.calls() + 1 + 2 * sizes.n() <= Run.MOST_CALLS) {
            int c = turn / TURNS_OF_A_CLIENT % CLIENTS;
            if (turn % TURNS_OF_A_CLIENT < TURNS_OF_A_CLIENT / 2) {
                x.write(c, turn);
            } else {
                x.read(c);
            }
            for (int s = 0; s < sizes.n(); s++) {
                x.deliver(c, s, 0);
                x.hear(c, s, 0);
            }
            turn++;
        }
        fits("writes and reads" + sizes.at());
    }

    private void looksAndRefusals() {
        start();
        Run x = new Run(7, 7, 3);
        while (x.calls() + 20 < Run.MOST_CALLS) {
            x.write(9, 1);
            x.read(-1);
            x.again(0);
            x.deliver(0, 0, 9);
            x.hear(0, 0, -1);
            x.crash(9);
            x.stop(9);
            x.phase(0);
            x.heard(0);
            x.tag(0);
            x.result(0);
            x.finished(0);
            x.held(0);
            x.heldTag(0, 0);
            x.fragment(0, 0, 0);
            x.seal(0);
            x.requests(0, 0);
            x.replies(0, 0);
            x.quorum();
        }
        fits("looks and refusals");
    }

    private void newObjects() {
        start();
        for (int i = 0; i < Run.MOST_CALLS; i++) {
            new SealedFragmentRegister(7, 7, 3);
        }
        fits("512 new objects");
    }
}
