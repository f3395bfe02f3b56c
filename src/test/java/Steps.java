/** Moves of several calls, so that a test tells what happens and not every letter. */
final class Steps {
    private Steps() {
    }

    /** The servers from .. to - 1. */
    static int[] servers(int from, int to) {
        int[] row = new int[to - from];
        for (int i = 0; i < row.length; i++) {
            row[i] = from + i;
        }
        return row;
    }

    /** Delivers the newest request of client c at server s and hears the newest reply. */
    static int round(Run x, int c, int s) {
        x.deliver(c, s, x.requests(c, s) - 1);
        return x.hear(c, s, x.replies(c, s) - 1);
    }

    /** A round with each of the servers in turn; the last hear's answer. */
    static int rounds(Run x, int c, int... servers) {
        int answer = -9;
        for (int s : servers) {
            answer = round(x, c, s);
        }
        return answer;
    }

    static int write(Run x, int c, long block, int... servers) {
        x.write(c, block);
        rounds(x, c, servers);
        rounds(x, c, servers);
        return rounds(x, c, servers);
    }

    static int read(Run x, int c, int... servers) {
        x.read(c);
        rounds(x, c, servers);
        return rounds(x, c, servers);
    }

    /** Client c begins a write and brings it as far as phase 2, in which its letters lie. */
    static void writeUpToStore(Run x, int c, long block, int... servers) {
        x.write(c, block);
        rounds(x, c, servers);
    }

    /** Client c begins a write (of the block) or a read and brings it to the phase. */
    static void upTo(int phase, Run x, int c, long block, int... servers) {
        if (phase <= 3) {
            x.write(c, block);
        } else {
            x.read(c);
        }
        for (int before = phase <= 3 ? 1 : 4; before < phase; before++) {
            rounds(x, c, servers);
        }
    }

    /** Delivers all that waits of client c at server s, oldest first. */
    static void deliverAll(Run x, int c, int s) {
        for (int waiting = x.requests(c, s); waiting > 0; waiting--) {
            x.deliver(c, s, 0);
        }
    }

    /** Servers 0 and 1 of three have dropped the tag 0 for one that is nowhere sealed. */
    static Run withTagZeroDropped() {
        Run x = new Run(3, 1, 0);
        writeUpToStore(x, 4, 99, 0, 1);
        x.deliver(4, 0, 0);
        x.deliver(4, 1, 0);
        return x;
    }

    /** A write that every server has stored and sealed, though only the quorum's replies counted. */
    static void writeEverywhere(Run x, int c, long block, Sizes sizes) {
        write(x, c, block, sizes.firstQuorum());
        for (int s = sizes.q(); s < sizes.n(); s++) {
            deliverAll(x, c, s);
        }
    }
}
