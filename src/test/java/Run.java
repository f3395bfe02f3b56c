/** An object of the program that counts its calls: what comes after the 512th is not promised. */
final class Run {
    static final int MOST_CALLS = 512;

    private final SealedFragmentRegister program;
    private int calls;

    Run(int n, int k, int d) {
        program = new SealedFragmentRegister(n, k, d);
    }

    int calls() {
        return calls;
    }

    private SealedFragmentRegister next() {
        calls++;
        if (calls > MOST_CALLS) {
            throw new IllegalStateException("a test asks for more calls than are promised");
        }
        return program;
    }

    int write(int c, long block) {
        return next().write(c, block);
    }

    int read(int c) {
        return next().read(c);
    }

    int again(int c) {
        return next().again(c);
    }

    int deliver(int c, int s, int j) {
        return next().deliver(c, s, j);
    }

    int hear(int c, int s, int j) {
        return next().hear(c, s, j);
    }

    boolean crash(int s) {
        return next().crash(s);
    }

    boolean stop(int c) {
        return next().stop(c);
    }

    int phase(int c) {
        return next().phase(c);
    }

    int heard(int c) {
        return next().heard(c);
    }

    int tag(int c) {
        return next().tag(c);
    }

    long result(int c) {
        return next().result(c);
    }

    int finished(int c) {
        return next().finished(c);
    }

    int held(int s) {
        return next().held(s);
    }

    int heldTag(int s, int i) {
        return next().heldTag(s, i);
    }

    int fragment(int s, int tag, int r) {
        return next().fragment(s, tag, r);
    }

    int seal(int s) {
        return next().seal(s);
    }

    int requests(int c, int s) {
        return next().requests(c, s);
    }

    int replies(int c, int s) {
        return next().replies(c, s);
    }

    int quorum() {
        return next().quorum();
    }
}
