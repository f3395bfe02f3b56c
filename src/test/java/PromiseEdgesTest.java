/** For each promise the values below, at and above each limit that it names, and its refusals. */
public final class PromiseEdgesTest extends Sentences {
    public static void main(String[] args) {
        PromiseEdgesTest test = new PromiseEdgesTest();
        test.numberOfServers();
        test.fragmentsNeeded();
        test.oldTags();
        test.newObject();
        test.write();
        test.writtenBlock();
        test.read();
        test.again();
        test.againRefusals();
        test.againIsTheSameRead();
        test.deliverPlaces();
        test.deliverOrder();
        test.hearPlaces();
        test.hearOrder();
        test.hearAnswers();
        test.crash();
        test.crashTwice();
        test.stop();
        test.phase();
        test.heard();
        test.tag();
        test.result();
        test.finished();
        test.held();
        test.heldTag();
        test.fragmentBytes();
        test.fragmentTags();
        test.seal();
        test.requests();
        test.replies();
        test.quorum();
        test.checks.end();
    }

    private void numberOfServers() {
        sentence("Promise 1: N is n, but 3 when n is less and 7 when n is more");
        int[][] rows = {{LOW, 3}, {-3, 3}, {0, 3}, {2, 3}, {3, 3}, {4, 4}, {5, 5}, {6, 6}, {7, 7},
            {8, 7}, {9, 7}, {HIGH, 7}};
        for (int[] row : rows) {
            Run x = new Run(row[0], 1, 0);
            x.read(0);
            due("the last server of " + row[0], x.seal(row[1] - 1), 0);
            due("the next one of " + row[0], x.seal(row[1]), -1);
            due("its request of " + row[0], x.requests(0, row[1] - 1), 1);
            due("quorum of " + row[0], x.quorum(), row[1] - (row[1] - 1) / 2);
        }
    }

    private void fragmentsNeeded() {
        sentence("Promise 1: K is k, but 1 when k is less and N when k is more");
        for (int n = 3; n <= 7; n++) {
            for (int k : new int[] {LOW, -1, 0, 1, 2, 3, 4, 5, 6, 7, 8, 9, HIGH}) {
                int taken = k < 1 ? 1 : k > n ? n : k;
                Run x = new Run(n, k, 0);
                int length = Bytes.length(taken);
                due("quorum of " + n + ", " + k, x.quorum(), n - (n - taken) / 2);
                due("last byte of " + n + ", " + k, x.fragment(0, 0, length - 1), 0);
                due("next byte of " + n + ", " + k, x.fragment(0, 0, length), -1);
            }
        }
        for (int n : new int[] {LOW, 0, 2}) {
            due("K is at most the N that is taken", new Run(n, 7, 0).fragment(2, 0, 2), 0);
            due("and quorum is 3", new Run(n, HIGH, 0).quorum(), 3);
        }
        due("K 7 of more than 7 servers", new Run(HIGH, 8, 0).quorum(), 7);
    }

    private void oldTags() {
        sentence("Promise 1: D is d, but 0 when d is less and 3 when d is more");
        int[][] rows = {{LOW, 0}, {-1, 0}, {0, 0}, {1, 1}, {2, 2}, {3, 3}, {4, 3}, {5, 3}, {HIGH, 3}};
        for (int[] row : rows) {
            Run x = three(row[0]);
            for (int c = 0; c < 5; c++) {
                due("held of " + row[0], x.held(0), Math.min(row[1], c) + 1);
                Steps.write(x, c, 1, 0, 1);
            }
            due("held of " + row[0], x.held(0), row[1] + 1);
        }
    }

    private void newObject() {
        sentence("Promise 1: No letters, no operations, nobody has crashed");
        for (Sizes sizes : Sizes.ALL) {
            Run x = sizes.run(0);
            for (int c = 0; c < 5; c++) {
                due("phase", x.phase(c), 0);
                due("heard", x.heard(c), 0);
                due("finished", x.finished(c), 0);
                for (int s = 0; s < sizes.n(); s++) {
                    due("requests", x.requests(c, s), 0);
                    due("replies", x.replies(c, s), 0);
                }
            }
            for (int c = 0; c < 5; c++) {
                due("stop", x.stop(c), true);
            }
            for (int s = 0; s < sizes.f(); s++) {
                due("crash", x.crash(sizes.n() - 1 - s), true);
            }
        }
    }

    private void write() {
        sentence("Promise 2: Client c begins a write of the block. 0; -1 when there is no client"
            + " c, -2 when it has crashed, -3 when it has an operation under way, -4 when it is crowded");
        int[][] rows = {{LOW, -1}, {-1, -1}, {0, 0}, {1, 0}, {2, 0}, {3, 0}, {4, 0}, {5, -1}, {HIGH, -1}};
        for (int[] row : rows) {
            Run x = three(0);
            due("write of " + row[0], x.write(row[0], 1), row[1]);
            due("phase of " + row[0], x.phase(row[0]), row[1] < 0 ? -1 : 1);
            due("write under way of " + row[0], x.write(row[0], 1), row[1] < 0 ? -1 : -3);
            due("stop of " + row[0], x.stop(row[0]), row[1] == 0);
            due("crashed write of " + row[0], x.write(row[0], 1), row[1] < 0 ? -1 : -2);
        }
        Run y = three(0);
        Steps.read(y, 2, 0, 1);
        Steps.read(y, 2, 0, 1);
        due("write with four letters", y.write(2, 1), 0);
        Steps.rounds(y, 2, 0, 1);
        Steps.rounds(y, 2, 0, 1);
        due("finished", Steps.rounds(y, 2, 0, 1), 3);
        due("write with seven letters", y.write(2, 1), -4);
        due("phase", y.phase(2), 0);
    }

    private void writtenBlock() {
        sentence("Promise 2: Client c begins a write of the block");
        for (long block : new long[] {0, 1, -1, Long.MIN_VALUE, Long.MAX_VALUE, 0x100000000L}) {
            for (Sizes sizes : Sizes.ALL) {
                Run x = sizes.run(0);
                Steps.write(x, 1, block, sizes.firstQuorum());
                due("refused", x.write(-1, 77), -1);
                due("read" + sizes.at(), Steps.read(x, 2, sizes.firstQuorum()), 3);
                due("result" + sizes.at(), x.result(2), block);
            }
        }
        Run y = three(0);
        y.write(0, 10);
        y.write(1, 11);
        due("refused under way", y.write(0, 12), -3);
        Steps.rounds(y, 1, 0, 1);
        Steps.rounds(y, 0, 0, 1);
        y.deliver(0, 0, 0);
        y.deliver(1, 1, 0);
        due("each client its own block", y.fragment(0, 8, 0), 10);
        due("and the other its own", y.fragment(1, 9, 0), 11);
    }

    private void read() {
        sentence("Promise 3: Client c begins a read. 0; -1 when there is no client c, -2 when it"
            + " has crashed, -3 when it has an operation under way, -4 when it is crowded");
        int[][] rows = {{LOW, -1}, {-1, -1}, {0, 0}, {1, 0}, {2, 0}, {3, 0}, {4, 0}, {5, -1}, {HIGH, -1}};
        for (int[] row : rows) {
            Run x = three(0);
            due("read of " + row[0], x.read(row[0]), row[1]);
            due("phase of " + row[0], x.phase(row[0]), row[1] < 0 ? -1 : 4);
            due("read under way of " + row[0], x.read(row[0]), row[1] < 0 ? -1 : -3);
            due("stop of " + row[0], x.stop(row[0]), row[1] == 0);
            due("crashed read of " + row[0], x.read(row[0]), row[1] < 0 ? -1 : -2);
        }
        Run y = three(0);
        for (int letters = 0; letters <= 4; letters += 2) {
            due("letters", y.requests(2, 2), letters);
            due("read with " + letters, Steps.read(y, 2, 0, 1), 3);
        }
        due("read with six letters", y.read(2), -4);
        due("phase", y.phase(2), 0);
    }

    /** All servers have dropped the tag 0, so that a read looks in vain; it is in phase 5. */
    private static Run inVain(Sizes sizes) {
        Run x = sizes.run(0);
        Steps.writeUpToStore(x, 4, 99, sizes.firstQuorum());
        for (int s = 0; s < sizes.n(); s++) {
            Steps.deliverAll(x, 4, s);
        }
        Steps.upTo(5, x, 0, 0, sizes.firstQuorum());
        return x;
    }

    private void again() {
        sentence("Promise 4: which is in phase 5, in which at least Q replies have counted (and"
            + " the read is not finished)");
        for (Sizes sizes : Sizes.ALL) {
            for (int replies = 0; replies <= sizes.n(); replies++) {
                Run x = inVain(sizes);
                for (int s = 0; s < replies; s++) {
                    Steps.round(x, 0, s);
                }
                String at = " after " + replies + " replies" + sizes.at();
                due("heard" + at, x.heard(0), replies);
                due("again" + at, x.again(0), replies < sizes.q() ? -3 : 0);
                due("phase" + at, x.phase(0), replies < sizes.q() ? 5 : 4);
                due("twice" + at, x.again(0), -3);
            }
        }
        for (int phase = 1; phase <= 5; phase++) {
            Run x = three(0);
            Steps.upTo(phase, x, 3, 1, 0, 1);
            due("in phase " + phase, x.again(3), -3);
            Steps.round(x, 3, 0);
            due("in phase " + phase + ", one reply", x.again(3), -3);
            Steps.round(x, 3, 1);
            due("after phase " + phase, x.again(3), -3);
        }
    }

    private void againRefusals() {
        sentence("Promise 4: 0; -1 when there is no client c, -2 when it has crashed, -3 when it is"
            + " not so, -4 when it is crowded");
        Run x = three(0);
        for (int c : new int[] {LOW, -1, 5, HIGH}) {
            due("no client", x.again(c), -1);
        }
        due("idle", x.again(0), -3);
        x.stop(0);
        due("crashed", x.again(0), -2);
        Sizes sizes = Sizes.ALL[0];
        Run y = inVain(sizes);
        Steps.rounds(y, 0, 0, 1);
        for (int letters = 2; letters <= 4; letters += 2) {
            due("letters", y.requests(0, 2), letters);
            due("not crowded", y.again(0), 0);
            Steps.rounds(y, 0, 0, 1, 0, 1);
        }
        due("letters", y.requests(0, 2), 6);
        due("crowded", y.again(0), -4);
        due("still in phase 5", y.phase(0), 5);
        y.stop(0);
        due("crashed, too", y.again(0), -2);
    }

    private void againIsTheSameRead() {
        sentence("Promise 4: gives that phase up and begins phase 4 of the same read anew");
        for (Sizes sizes : Sizes.ALL) {
            Run x = inVain(sizes);
            Steps.rounds(x, 0, sizes.firstQuorum());
            due("again" + sizes.at(), x.again(0), 0);
            due("heard" + sizes.at(), x.heard(0), 0);
            due("finished" + sizes.at(), x.finished(0), 0);
            due("tag stays" + sizes.at(), x.tag(0), 0);
            due("a request" + sizes.at(), x.requests(0, 0), 1);
            for (int s = 0; s < sizes.q(); s++) {
                x.hear(4, s, 0);
            }
            Steps.rounds(x, 4, sizes.firstQuorum());
            due("the other write" + sizes.at(), x.finished(4), 1);
            Steps.rounds(x, 0, sizes.firstQuorum());
            due("the new tag" + sizes.at(), x.tag(0), 12);
            due("finished" + sizes.at(), Steps.rounds(x, 0, sizes.firstQuorum()), 3);
            due("once" + sizes.at(), x.finished(0), 1);
            due("result" + sizes.at(), x.result(0), 99);
        }
        Run y = three(0);
        Steps.write(y, 1, 5, 0, 1);
        Steps.upTo(2, y, 2, 6, 0, 1);
        y.deliver(2, 0, 0);
        y.deliver(2, 1, 0);
        Steps.upTo(5, y, 0, 0, 0, 1);
        due("tag", y.tag(0), 9);
        due("in vain", Steps.rounds(y, 0, 0, 1), 1);
        due("again", y.again(0), 0);
        due("a tag other than 0 stays, too", y.tag(0), 9);
        due("one reply", Steps.round(y, 0, 0), 1);
        due("until the look ends", y.tag(0), 9);
    }

    /** Seven letters lie at server 2: of phases 4, 5, 4, 5, 1, 2, 3, in this order. */
    private static final int[] SEVEN = {4, 5, 4, 5, 1, 2, 3};

    private static Run withSevenLetters() {
        Run x = three(0);
        Steps.read(x, 3, 0, 1);
        Steps.read(x, 3, 0, 1);
        Steps.write(x, 3, 5, 0, 1);
        return x;
    }

    private void deliverPlaces() {
        sentence("Promise 5: -1 when there is no client c or no server s, -2 when no such request"
            + " waits (j below 0, too, here and in hear(); so also when s has crashed)");
        for (int waiting = 0; waiting <= 7; waiting++) {
            Run x = withSevenLetters();
            for (int gone = 7; gone > waiting; gone--) {
                due("deliver", x.deliver(3, 2, 0), SEVEN[7 - gone]);
            }
            for (int j : new int[] {LOW, -7, -2, -1, waiting, waiting + 1, 7, 8, HIGH}) {
                due("deliver " + j + " of " + waiting, x.deliver(3, 2, j), -2);
            }
            due("requests", x.requests(3, 2), waiting);
            due("no client -1", x.deliver(-1, 2, 0), -1);
            due("no client 5", x.deliver(5, 2, 0), -1);
            due("no server -1", x.deliver(3, -1, 0), -1);
            due("no server 3", x.deliver(3, 3, 0), -1);
            if (waiting > 0) {
                due("the last of " + waiting, x.deliver(3, 2, waiting - 1), 3);
            }
            x.crash(2);
            for (int j = -1; j <= waiting; j++) {
                due("crashed, " + j, x.deliver(3, 2, j), -2);
            }
        }
    }

    private void deliverOrder() {
        sentence("Promise 5: the request at place j, from 0 for the one that was sent first, among"
            + " those of client c that wait at server s. The phase (1 .. 5) in which it was sent");
        for (int j = 0; j < 7; j++) {
            Run x = withSevenLetters();
            due("place " + j, x.deliver(3, 2, j), SEVEN[j]);
            for (int left = 0; left < 6; left++) {
                due("then", x.deliver(3, 2, 0), SEVEN[left < j ? left : left + 1]);
            }
            due("no more", x.deliver(3, 2, 0), -2);
        }
    }

    private void hearPlaces() {
        sentence("Promise 6: -1 when there is no client c or no server s, -2 when no such reply"
            + " waits");
        for (int waiting = 0; waiting <= 7; waiting++) {
            Run x = withSevenLetters();
            for (int i = 0; i < waiting; i++) {
                x.deliver(3, 2, 0);
            }
            for (int j : new int[] {LOW, -7, -2, -1, waiting, waiting + 1, 7, 8, HIGH}) {
                due("hear " + j + " of " + waiting, x.hear(3, 2, j), -2);
            }
            due("replies", x.replies(3, 2), waiting);
            due("no client -1", x.hear(-1, 2, 0), -1);
            due("no client 5", x.hear(5, 2, 0), -1);
            due("no server -1", x.hear(3, -1, 0), -1);
            due("no server 3", x.hear(3, 3, 0), -1);
            due("the last of " + waiting, x.hear(3, 2, waiting - 1), waiting == 0 ? -2 : 0);
        }
    }

    /** Of the replies the one of the phase that is on counts, so that its place shows. */
    private void hearOrder() {
        sentence("Promise 6: the reply at place j, from 0 for the one that was sent first, among"
            + " those of server s that wait for c");
        for (int place = 0; place < 5; place++) {
            for (int j = 0; j < 5; j++) {
                Run x = three(0);
                Steps.read(x, 0, 0, 1);
                Steps.read(x, 0, 0, 1);
                x.write(0, 5);
                for (int i = 0; i < 5; i++) {
                    x.deliver(0, 2, i == place ? x.requests(0, 2) - 1 : 0);
                }
                due("replies", x.replies(0, 2), 5);
                due("hear " + j, x.hear(0, 2, j), j == place ? 1 : 0);
                for (int left = 0; left < 4; left++) {
                    int was = left < j ? left : left + 1;
                    due("then", x.hear(0, 2, 0), was == place ? 1 : 0);
                }
            }
        }
    }

    private void hearAnswers() {
        sentence("Promise 6: 0 when it does not count, 1 when it counts and the phase goes on, 2"
            + " when the next phase begins by it, 3 when the operation is finished by it");
        for (Sizes sizes : Sizes.ALL) {
            Run x = sizes.run(0);
            x.write(2, 5);
            for (int phase = 1; phase <= 3; phase++) {
                for (int i = 1; i <= sizes.q(); i++) {
                    due("reply " + i + " of phase " + phase + sizes.at(), Steps.round(x, 2, i - 1),
                        i < sizes.q() ? 1 : phase < 3 ? 2 : 3);
                }
            }
            x.read(2);
            for (int phase = 4; phase <= 5; phase++) {
                for (int i = 1; i <= sizes.q(); i++) {
                    due("reply " + i + " of phase " + phase + sizes.at(), Steps.round(x, 2, i - 1),
                        i < sizes.q() ? 1 : phase < 5 ? 2 : 3);
                }
            }
            for (int s = sizes.q(); s < sizes.n(); s++) {
                due("late" + sizes.at(), Steps.round(x, 2, s), 0);
            }
        }
    }

    private void crash() {
        sentence("Promise 7: Server s crashes: true; false when there is no server s, it has"
            + " crashed already, or F servers have crashed");
        for (Sizes sizes : Sizes.ALL) {
            for (int first = 0; first < sizes.n(); first++) {
                Run x = sizes.run(0);
                for (int i = 0; i < sizes.n(); i++) {
                    int s = (first + i) % sizes.n();
                    due("crash " + (i + 1) + sizes.at(), x.crash(s), i < sizes.f());
                    due("twice" + sizes.at(), x.crash(s), false);
                }
                for (int s : new int[] {LOW, -1, sizes.n(), 7, HIGH}) {
                    due("no server" + sizes.at(), x.crash(s), false);
                }
            }
        }
    }

    private void crashTwice() {
        sentence("Promise 7: or F servers have crashed");
        Run x = new Run(7, 1, 0);
        for (int s : new int[] {LOW, -1, 7, HIGH}) {
            due("no server", x.crash(s), false);
        }
        due("first", x.crash(6), true);
        due("again", x.crash(6), false);
        due("and again", x.crash(6), false);
        due("second", x.crash(0), true);
        due("third", x.crash(3), true);
        due("fourth", x.crash(1), false);
        x.read(0);
        for (int s = 0; s < 7; s++) {
            due("requests at " + s, x.requests(0, s), s == 0 || s == 3 || s == 6 ? 0 : 1);
        }
        due("the rest is a quorum", Steps.rounds(x, 0, 1, 2, 4, 5), 2);
    }

    private void stop() {
        sentence("Promise 8: Client c crashes: true; false when there is no client c or it has"
            + " crashed already");
        Run x = three(0);
        for (int c : new int[] {LOW, -1, 5, HIGH}) {
            due("no client", x.stop(c), false);
        }
        for (int c = 0; c < 5; c++) {
            due("not yet", x.phase(c), 0);
            due("stop", x.stop(c), true);
            due("then", x.phase(c), 6);
            due("twice", x.stop(c), false);
        }
    }

    private void phase() {
        sentence("Promise 9: The phase 1 .. 5 that client c is in, 0 when it has no operation under"
            + " way, 6 when it has crashed, -1 when there is no client c");
        for (int phase = 1; phase <= 5; phase++) {
            for (int c = 0; c < 5; c++) {
                Run x = three(0);
                due("before", x.phase(c), 0);
                Steps.upTo(phase, x, c, 1, 0, 1);
                due("in phase", x.phase(c), phase);
                due("another client", x.phase((c + 1) % 5), 0);
                x.stop(c);
                due("crashed", x.phase(c), 6);
                due("another client", x.phase((c + 1) % 5), 0);
            }
        }
        for (int c : new int[] {LOW, -1, 5, HIGH}) {
            due("no client", three(0).phase(c), -1);
        }
    }

    private void heard() {
        sentence("Promise 10: How many replies have counted in the phase that client c is in; 0"
            + " when it has no operation under way or has crashed; -1 when there is no client c");
        for (Sizes sizes : Sizes.ALL) {
            Run x = inVain(sizes);
            for (int s = 0; s < sizes.n(); s++) {
                due("heard" + sizes.at(), x.heard(0), s);
                Steps.round(x, 0, s);
            }
            due("heard of all" + sizes.at(), x.heard(0), sizes.n());
            x.stop(0);
            due("crashed" + sizes.at(), x.heard(0), 0);
            due("idle" + sizes.at(), x.heard(1), 0);
        }
        Run y = three(0);
        y.write(0, 1);
        Steps.round(y, 0, 0);
        due("one", y.heard(0), 1);
        y.stop(0);
        due("crashed", y.heard(0), 0);
        Steps.read(y, 1, 0, 1);
        due("finished", y.heard(1), 0);
        for (int c : new int[] {LOW, -1, 5, HIGH}) {
            due("no client", y.heard(c), -1);
        }
    }

    private void tag() {
        sentence("Promise 11: The TAG of client c, as it became latest; 0 when it never did; -1"
            + " when there is no client c. (A crash does not change it.)");
        for (int c = 0; c < 5; c++) {
            Run x = three(0);
            due("never", x.tag(c), 0);
            Steps.write(x, c, 1, 0, 1);
            due("by a write", x.tag(c), 8 + c);
            due("of another client", x.tag((c + 1) % 5), 0);
            Steps.write(x, (c + 1) % 5, 1, 0, 2);
            due("not by another's write", x.tag(c), 8 + c);
            x.deliver(c, 2, 0);
            x.hear(c, 2, 0);
            x.read(c);
            due("not by the read's begin", x.tag(c), 8 + c);
            Steps.rounds(x, c, 1, 2);
            due("by the read", x.tag(c), 16 + (c + 1) % 5);
            x.stop(c);
            due("a crash", x.tag(c), 16 + (c + 1) % 5);
        }
        for (int c : new int[] {LOW, -1, 5, HIGH}) {
            due("no client", three(0).tag(c), -1);
        }
    }

    private void result() {
        sentence("Promise 12: The result of the latest read that client c has finished; 0 when it"
            + " has finished none or there is no client c. (A crash does not change it.)");
        for (int c = 0; c < 5; c++) {
            Run x = three(0);
            int writer = (c + 1) % 5;
            Steps.write(x, writer, -1, 0, 1);
            due("none", x.result(c), 0);
            Steps.upTo(5, x, c, 0, 0, 1);
            Steps.round(x, c, 0);
            due("not finished", x.result(c), 0);
            Steps.round(x, c, 1);
            due("finished", x.result(c), -1);
            due("a writer", x.result(writer), 0);
            x.crash(2);
            Steps.write(x, c, 7, 0, 1);
            due("a write does not change it", x.result(c), -1);
            Steps.upTo(5, x, c, 0, 0, 1);
            due("until the next is finished", x.result(c), -1);
            Steps.rounds(x, c, 0, 1);
            due("the latest", x.result(c), 7);
            for (int none : new int[] {LOW, -1, 5, HIGH}) {
                due("no client", x.result(none), 0);
            }
            x.stop(c);
            due("a crash", x.result(c), 7);
        }
    }

    private void finished() {
        sentence("Promise 13: How many operations client c has finished; -1 when there is no"
            + " client c");
        Run x = three(0);
        x.crash(2);
        for (int i = 0; i < 6; i++) {
            due("finished", x.finished(4), 2 * i);
            Steps.write(x, 4, i, 0, 1);
            due("a write", x.finished(4), 2 * i + 1);
            Steps.read(x, 4, 0, 1);
        }
        x.read(4);
        due("not one under way", x.finished(4), 12);
        x.stop(4);
        due("nor by a crash", x.finished(4), 12);
        due("another client", x.finished(3), 0);
        for (int c : new int[] {LOW, -1, 5, HIGH}) {
            due("no client", x.finished(c), -1);
        }
    }

    private void held() {
        sentence("Promise 14: Of how many tags server s holds a fragment; -1 when there is no"
            + " server s");
        for (int d = 0; d <= 3; d++) {
            Run x = new Run(4, 2, d);
            for (int c = 0; c < 5; c++) {
                due("held with D " + d, x.held(2), Math.min(c, d) + 1);
                due("at the slow one", x.held(3), 1);
                Steps.write(x, c, c, 0, 1, 2);
            }
            for (int s : new int[] {LOW, -1, 4, 7, HIGH}) {
                due("no server", x.held(s), -1);
            }
        }
    }

    private void heldTag() {
        sentence("Promise 15: The i-th of the tags of which server s holds a fragment, from 0 for"
            + " the highest; -1 when there is no server s or i is not 0 .. held(s) - 1");
        for (int d = 0; d <= 3; d++) {
            Run x = three(d);
            for (int writes = 0; writes <= 4; writes++) {
                int held = Math.min(writes, d) + 1;
                for (int i = 0; i < held; i++) {
                    due("tag " + i, x.heldTag(1, i), writes == i ? 0 : 8 * (writes - i) + writes - i);
                }
                for (int i : new int[] {LOW, -2, -1, held, held + 1, 4, 5, HIGH}) {
                    due("place " + i + " of " + held, x.heldTag(1, i), -1);
                }
                Steps.write(x, writes + 1, 1, 0, 1);
            }
            for (int s : new int[] {LOW, -1, 3, 7, HIGH}) {
                due("no server", x.heldTag(s, 0), -1);
            }
        }
    }

    private void fragmentBytes() {
        sentence("Promise 16: Byte r (0 .. 255) of the fragment that server s holds under the tag;"
            + " -1 when ... r is not 0 .. L - 1");
        for (Sizes sizes : Sizes.ALL) {
            Run x = sizes.run(1);
            Steps.writeUpToStore(x, 1, -1, sizes.firstQuorum());
            x.deliver(1, 0, 0);
            for (int tag : new int[] {0, 9}) {
                for (int r = 0; r < sizes.l(); r++) {
                    due("byte " + r + sizes.at(), x.fragment(0, tag, r),
                        tag == 0 ? 0 : Bytes.fragmentByte(-1, sizes.k(), 0, r));
                }
                for (int r : new int[] {LOW, -8, -1, sizes.l(), sizes.l() + 1, 8, 9, 64, HIGH}) {
                    due("byte " + r + sizes.at(), x.fragment(0, tag, r), -1);
                }
            }
        }
    }

    private void fragmentTags() {
        sentence("Promise 16: -1 when there is no server s, it holds none under that tag");
        Run x = three(1);
        for (int c = 0; c < 3; c++) {
            Steps.write(x, c, c + 1, 0, 1);
        }
        for (int tag = -10; tag <= 40; tag++) {
            due("tag " + tag, x.fragment(0, tag, 0), tag == 26 ? 3 : tag == 17 ? 2 : -1);
            due("tag " + tag + " at the slow one", x.fragment(2, tag, 0), tag == 0 ? 0 : -1);
        }
        for (int tag : new int[] {LOW, HIGH}) {
            due("tag " + tag, x.fragment(0, tag, 0), -1);
        }
        for (int s : new int[] {LOW, -1, 3, 7, HIGH}) {
            due("no server", x.fragment(s, 26, 0), -1);
        }
    }

    private void seal() {
        sentence("Promise 17: The seal of server s; -1 when there is no server s");
        Run x = new Run(7, 1, 0);
        Steps.write(x, 3, 1, 0, 1, 2, 3);
        for (int s = 0; s < 7; s++) {
            due("seal of " + s, x.seal(s), s < 4 ? 11 : 0);
        }
        Steps.write(x, 2, 1, 3, 4, 5, 6);
        for (int s = 0; s < 7; s++) {
            due("seal of " + s, x.seal(s), s < 3 ? 11 : 18);
        }
        for (int s : new int[] {LOW, -1, 7, HIGH}) {
            due("no server", x.seal(s), -1);
        }
    }

    private void requests() {
        sentence("Promise 18: How many requests of client c wait at server s; -1 when there is no"
            + " client c or no server s");
        Run x = withSevenLetters();
        for (int waiting = 7; waiting >= 0; waiting--) {
            due("requests", x.requests(3, 2), waiting);
            x.deliver(3, 2, waiting / 2);
        }
        for (int c = 0; c < 5; c++) {
            for (int s = 0; s < 3; s++) {
                due("none elsewhere", x.requests(c, s), 0);
            }
        }
        for (int none : new int[] {LOW, -1, 5, HIGH}) {
            due("no client", x.requests(none, 0), -1);
            due("no server", x.requests(0, none == 5 ? 3 : none), -1);
            due("neither", x.requests(none, none), -1);
        }
    }

    private void replies() {
        sentence("Promise 19: How many replies of server s wait for client c; -1 when there is no"
            + " client c or no server s");
        Run x = withSevenLetters();
        for (int waiting = 0; waiting < 7; waiting++) {
            due("replies", x.replies(3, 2), waiting);
            x.deliver(3, 2, 0);
        }
        for (int waiting = 7; waiting >= 0; waiting--) {
            due("replies", x.replies(3, 2), waiting);
            x.hear(3, 2, waiting / 2);
        }
        for (int c = 0; c < 5; c++) {
            for (int s = 0; s < 3; s++) {
                due("none elsewhere", x.replies(c, s), 0);
            }
        }
        for (int none : new int[] {LOW, -1, 5, HIGH}) {
            due("no client", x.replies(none, 0), -1);
            due("no server", x.replies(0, none == 5 ? 3 : none), -1);
            due("neither", x.replies(none, none), -1);
        }
    }

    private void quorum() {
        sentence("Promise 20: The QUORUM");
        for (Sizes sizes : Sizes.ALL) {
            Run x = sizes.run(0);
            due("quorum" + sizes.at(), x.quorum(), sizes.q());
            for (int s = 0; s < sizes.f(); s++) {
                x.crash(s);
                due("after a crash" + sizes.at(), x.quorum(), sizes.q());
            }
            x.read(0);
            int end = Steps.rounds(x, 0, Steps.servers(sizes.f(), sizes.n()));
            due("by all that are left" + sizes.at(), end, 2);
        }
    }
}
