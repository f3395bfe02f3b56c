import java.util.Random;

/**
 * No call may throw or fail to end, whatever its arguments and however many calls went before; so
 * here an object lives far beyond the calls for which its answers are promised, and only the
 * promised ones are looked at.
 */
public final class WildCallsTest {
    private static final int OBJECTS = 300;
    private static final int CALLS = 5000;
    private static final int PROMISED = 512;

    private final Checks checks = new Checks();
    private Random random;
    private int calls;

    public static void main(String[] args) {
        WildCallsTest test = new WildCallsTest();
        for (int seed = 0; seed < OBJECTS; seed++) {
            test.oneObject(seed);
        }
        test.manyObjects();
        test.checks.end();
    }

    private int any(int usual) {
        return random.nextInt(10) == 0 ? random.nextInt() : random.nextInt(usual + 2) - 1;
    }

    private void oneObject(int seed) {
        random = new Random(seed);
        SealedFragmentRegister x = new SealedFragmentRegister(any(9), any(9), any(5));
        calls = 0;
        while (calls < CALLS) {
            oneCall(x);
        }
    }

    private void oneCall(SealedFragmentRegister x) {
        int c = any(5);
        int s = any(7);
        switch (random.nextInt(24)) {
            case 0 -> within("write", x.write(c, random.nextLong()), -4, 0);
            case 1 -> within("read", x.read(c), -4, 0);
            case 2 -> within("again", x.again(c), -4, 0);
            case 3 -> within("crash", random.nextInt(200) == 0 && x.crash(s) ? 1 : 0, 0, 1);
            case 4 -> within("stop", random.nextInt(500) == 0 && x.stop(c) ? 1 : 0, 0, 1);
            case 5 -> within("phase", x.phase(c), -1, 6);
            case 6 -> within("heard", x.heard(c), -1, 7);
            case 7 -> within("held", x.held(s), -1, 4);
            case 8 -> within("heldTag", x.heldTag(s, any(4)), -1, Integer.MAX_VALUE);
            case 9 -> within("fragment", x.fragment(s, any(99), any(8)), -1, 255);
            case 10 -> within("requests", x.requests(c, s), -1, 7);
            case 11 -> within("replies", x.replies(c, s), -1, 7);
            case 12 -> within("tag", x.tag(c), -1, Integer.MAX_VALUE);
            case 13 -> within("seal", x.seal(s), -1, Integer.MAX_VALUE);
            case 14 -> within("finished", x.finished(c), -1, PROMISED);
            case 15 -> within("quorum", x.quorum(), 2, 7);
            case 16 -> within("result", x.result(c), Long.MIN_VALUE, Long.MAX_VALUE);
            default -> {
                within("deliver", x.deliver(c, s, any(3)), -2, 5);
                within("hear", x.hear(c, s, any(3)), -2, 3);
            }
        }
    }

    private void within(String call, long got, long least, long most) {
        calls++;
        if (calls > PROMISED) {
            return;
        }
        checks.due(call + " within bounds: " + got, got >= least && got <= most, true);
    }

    /** As many objects as a run has calls, all of them kept. */
    private void manyObjects() {
        SealedFragmentRegister[] kept = new SealedFragmentRegister[PROMISED];
        for (int i = 0; i < PROMISED; i++) {
            kept[i] = new SealedFragmentRegister(7, i % 8, 3);
            kept[i].write(i % 5, i);
        }
        for (int i = 0; i < PROMISED; i++) {
            checks.due("each its own letters", kept[i].requests(i % 5, 6), 1);
            checks.due("and no other's", kept[i].requests((i + 1) % 5, 6), 0);
        }
    }
}
