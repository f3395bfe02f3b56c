/** Moves of several calls, so that a test tells what happens and not every letter. */
final class Steps {
    private Steps() {
    }

    /** Delivers the newest request of client c at server s and hears the newest reply. */
    static int round(SealedFragmentRegister x, int c, int s) {
        x.deliver(c, s, x.requests(c, s) - 1);
        return x.hear(c, s, x.replies(c, s) - 1);
    }

    /** A round with each of the servers in turn; the last hear's answer. */
    static int rounds(SealedFragmentRegister x, int c, int... servers) {
        int answer = -9;
        for (int s : servers) {
            answer = round(x, c, s);
        }
        return answer;
    }

    static int write(SealedFragmentRegister x, int c, long block, int... servers) {
        x.write(c, block);
        rounds(x, c, servers);
        rounds(x, c, servers);
        return rounds(x, c, servers);
    }

    static int read(SealedFragmentRegister x, int c, int... servers) {
        x.read(c);
        rounds(x, c, servers);
        return rounds(x, c, servers);
    }

    /** Client c begins a write and brings it as far as phase 2, in which its letters lie. */
    static void writeUpToStore(SealedFragmentRegister x, int c, long block, int... servers) {
        x.write(c, block);
        rounds(x, c, servers);
    }
}
