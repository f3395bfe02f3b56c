/** "Terms": CRASHES and CROWDED, a test for each sentence. */
public final class TermsCrashTest extends Sentences {
    public static void main(String[] args) {
        TermsCrashTest test = new TermsCrashTest();
        test.requestsAreLost();
        test.noMoreAreSent();
        test.repliesAreHeard();
        test.crashedServersFragment();
        test.serverStays();
        test.neverFinished();
        test.beginsNoOther();
        test.requestsAreDelivered();
        test.neverCounts();
        test.fourLetters();
        test.countedTogether();
        test.everyServer();
        test.eachServerAlone();
        test.eachClientAlone();
        test.crashedServerCrowdsNobody();
        test.fourLettersAndAgain();
        test.everyServerAndAgain();
        test.checks.end();
    }

    private void requestsAreLost() {
        sentence("When a server crashes, the requests that wait at it are lost");
        for (int phase = 1; phase <= 5; phase++) {
            Run x = three(0);
            for (int c = 0; c < 5; c++) {
                Steps.upTo(phase, x, c, 5, 0, 1);
            }
            int waiting = x.requests(0, 2);
            due("they waited", waiting, phase <= 3 ? phase : phase - 3);
            due("crash", x.crash(2), true);
            for (int c = 0; c < 5; c++) {
                due("requests of phase " + phase, x.requests(c, 2), 0);
                due("deliver of phase " + phase, x.deliver(c, 2, 0), -2);
                due("deliver of the last", x.deliver(c, 2, waiting - 1), -2);
                due("elsewhere they wait", x.requests(c, 1), 1);
                due("and are delivered", x.deliver(c, 1, 0), phase);
            }
        }
    }

    private void noMoreAreSent() {
        sentence("and no more are sent to it");
        for (int phase = 1; phase <= 5; phase++) {
            Run x = three(0);
            x.crash(2);
            Steps.upTo(phase, x, 0, 5, 0, 1);
            due("phase", x.phase(0), phase);
            due("requests in phase " + phase, x.requests(0, 2), 0);
            due("requests elsewhere", x.requests(0, 1), 1);
            Run y = three(0);
            Steps.upTo(phase, y, 0, 5, 0, 1);
            y.crash(2);
            int end = Steps.rounds(y, 0, 0, 1);
            due("the phase ends without it", end, phase == 3 || phase == 5 ? 3 : 2);
            due("requests after phase " + phase, y.requests(0, 2), 0);
        }
        Run z = Steps.withTagZeroDropped();
        Steps.upTo(5, z, 0, 0, 0, 1);
        Steps.rounds(z, 0, 0, 1);
        z.crash(2);
        due("again", z.again(0), 0);
        due("requests after again", z.requests(0, 2), 0);
        due("requests elsewhere", z.requests(0, 0), 1);
    }

    private void repliesAreHeard() {
        sentence("its replies that wait can still be heard");
        for (int phase = 1; phase <= 5; phase++) {
            Run x = three(0);
            Steps.upTo(phase, x, 0, 5, 0, 1);
            int earlier = x.requests(0, 2) - 1;
            x.deliver(0, 2, earlier);
            x.crash(2);
            due("replies in phase " + phase, x.replies(0, 2), 1);
            due("hear in phase " + phase, x.hear(0, 2, 0), 1);
            due("heard", x.heard(0), 1);
            due("the quorum", Steps.round(x, 0, 1), phase == 3 || phase == 5 ? 3 : 2);
        }
        Run y = three(0);
        Steps.write(y, 0, 5, 0, 1);
        for (int i = 0; i < 3; i++) {
            y.deliver(0, 2, 0);
        }
        y.crash(2);
        for (int left = 3; left > 0; left--) {
            due("old replies wait", y.replies(0, 2), left);
            due("and are heard", y.hear(0, 2, left - 1), 0);
        }
        due("no more", y.hear(0, 2, 0), -2);
    }

    private void crashedServersFragment() {
        sentence("its replies that wait can still be heard");
        Run x = new Run(5, 3, 0);
        long block = 0x7766554433221100L;
        Steps.write(x, 0, block, 0, 1, 2, 3);
        Steps.upTo(5, x, 1, 0, 0, 1, 2, 3);
        x.deliver(1, 2, 0);
        x.crash(2);
        Steps.rounds(x, 1, 4, 0, 1);
        due("its fragment is the third", x.hear(1, 2, 0), 3);
        due("result", x.result(1), block);
    }

    private void serverStays() {
        sentence("what it holds and its seal stay as they are");
        Run x = new Run(3, 1, 2);
        Steps.write(x, 3, 0x0A0B0C0D0E0F1011L, 0, 1);
        Steps.upTo(3, x, 4, 7, 0, 1);
        due("crash", x.crash(1), true);
        due("held", x.held(1), 3);
        due("heldTag 0", x.heldTag(1, 0), 20);
        due("heldTag 1", x.heldTag(1, 1), 11);
        due("heldTag 2", x.heldTag(1, 2), 0);
        due("fragment of 20", x.fragment(1, 20, 0), 7);
        due("fragment of 11", x.fragment(1, 11, 7), 0x0A);
        due("fragment of 0", x.fragment(1, 0, 7), 0);
        due("seal", x.seal(1), 11);
        x.deliver(4, 0, 0);
        Steps.write(x, 2, 8, 0, 2);
        due("held later", x.held(1), 3);
        due("heldTag later", x.heldTag(1, 0), 20);
        due("seal later", x.seal(1), 11);
    }

    private void neverFinished() {
        sentence("When a client crashes, its operation (if there is one) is never finished");
        for (int phase = 1; phase <= 5; phase++) {
            Run x = three(0);
            Steps.upTo(phase, x, 0, 5, 0, 1);
            int tag = x.tag(0);
            Steps.round(x, 0, 0);
            x.deliver(0, 1, 0);
            due("stop", x.stop(0), true);
            due("phase", x.phase(0), 6);
            due("the reply that would be the Qth", x.hear(0, 1, 0), 0);
            Steps.deliverAll(x, 0, 2);
            for (int left = x.replies(0, 2); left > 0; left--) {
                due("nor these", x.hear(0, 2, 0), 0);
            }
            due("finished", x.finished(0), 0);
            due("phase", x.phase(0), 6);
            due("tag", x.tag(0), tag);
            due("no next phase", x.requests(0, 1), 0);
        }
        Run y = three(0);
        Steps.write(y, 0, 5, 0, 1);
        y.stop(0);
        due("one that was finished before", y.finished(0), 1);
    }

    private void beginsNoOther() {
        sentence("and it begins no other");
        for (int phase = 0; phase <= 5; phase++) {
            Run x = three(0);
            if (phase > 0) {
                Steps.upTo(phase, x, 4, 5, 0, 1);
            }
            int waiting = x.requests(4, 0);
            x.stop(4);
            due("write", x.write(4, 1), -2);
            due("read", x.read(4), -2);
            due("again", x.again(4), -2);
            due("nothing is sent", x.requests(4, 0), waiting);
            due("others do", x.write(3, 1), 0);
        }
        Run y = Steps.withTagZeroDropped();
        Steps.upTo(5, y, 0, 0, 0, 1);
        Steps.rounds(y, 0, 0, 1);
        y.stop(0);
        due("again, though Q replies counted", y.again(0), -2);
        due("nothing is sent", y.requests(0, 0), 0);
    }

    private void requestsAreDelivered() {
        sentence("its requests that wait can still be delivered");
        for (int phase = 1; phase <= 5; phase++) {
            Run x = three(0);
            Steps.write(x, 1, 6, 0, 1);
            Steps.upTo(phase, x, 0, 5, 0, 1);
            x.stop(0);
            int waiting = x.requests(0, 2);
            due("requests stay", waiting, phase <= 3 ? phase : phase - 3);
            due("deliver in phase " + phase, x.deliver(0, 2, waiting - 1), phase);
            due("replies", x.replies(0, 2), 1);
            due("stored in phase 2 alone", x.fragment(2, 16, 0), phase == 2 ? 5 : -1);
            due("sealed in the phases 3 and 5", x.seal(2), phase == 3 ? 16 : phase == 5 ? 9 : 0);
        }
    }

    private void neverCounts() {
        sentence("a reply that it hears never counts");
        for (int phase = 1; phase <= 5; phase++) {
            Run x = three(0);
            Steps.upTo(phase, x, 0, 5, 0, 1);
            x.deliver(0, 0, 0);
            x.stop(0);
            due("sent before the crash", x.hear(0, 0, 0), 0);
            due("thrown away", x.replies(0, 0), 0);
            x.deliver(0, 1, 0);
            due("sent after it", x.hear(0, 1, 0), 0);
            due("thrown away", x.replies(0, 1), 0);
            due("heard", x.heard(0), 0);
        }
    }

    /** Five letters of client 1 lie at each server outside the quorum. */
    private static Run withFiveLetters(int n, int... quorum) {
        Run x = new Run(n, 1, 0);
        Steps.write(x, 1, 7, quorum);
        Steps.read(x, 1, quorum);
        return x;
    }

    private static void loseOne(Run x, int s) {
        x.deliver(1, s, 0);
        x.hear(1, s, 0);
    }

    private void fourLetters() {
        sentence("more than 4 letters wait between the two");
        for (int letters = 0; letters <= 5; letters++) {
            for (boolean writing : new boolean[] {true, false}) {
                Run x = withFiveLetters(3, 0, 1);
                for (int gone = 5; gone > letters; gone--) {
                    loseOne(x, 2);
                }
                due("requests", x.requests(1, 2), letters);
                due("begin with " + letters, writing ? x.write(1, 8) : x.read(1),
                    letters > 4 ? -4 : 0);
                due("requests then", x.requests(1, 2), letters > 4 ? 5 : letters + 1);
                due("requests elsewhere", x.requests(1, 0), letters > 4 ? 0 : 1);
            }
        }
        Run y = withFiveLetters(3, 0, 1);
        loseOne(y, 2);
        Steps.write(y, 1, 8, 0, 1);
        for (int letters = 7; letters > 4; letters--) {
            due("letters", y.requests(1, 2), letters);
            due("write with " + letters, y.write(1, 9), -4);
            due("read with " + letters, y.read(1), -4);
            loseOne(y, 2);
        }
        due("read with 4", y.read(1), 0);
    }

    private void countedTogether() {
        sentence("requests of the client at that server and replies of that server for the"
            + " client, counted together");
        for (int letters = 4; letters <= 5; letters++) {
            for (int replies = 0; replies <= letters; replies++) {
                for (boolean writing : new boolean[] {true, false}) {
                    Run x = withFiveLetters(3, 0, 1);
                    if (letters == 4) {
                        loseOne(x, 2);
                    }
                    for (int i = 0; i < replies; i++) {
                        x.deliver(1, 2, 0);
                    }
                    due("requests", x.requests(1, 2), letters - replies);
                    due("replies", x.replies(1, 2), replies);
                    due("begin with " + replies + " replies of " + letters,
                        writing ? x.write(1, 8) : x.read(1), letters == 4 ? 0 : -4);
                }
            }
        }
    }

    private void everyServer() {
        sentence("A client is CROWDED when there is a server that has not crashed such that");
        for (int n = 3; n <= 7; n++) {
            for (int slow = 0; slow < n; slow++) {
                int q = n - (n - 1) / 2;
                int[] quorum = new int[q];
                for (int i = 0; i < q; i++) {
                    quorum[i] = (slow + 1 + i) % n;
                }
                Run x = withFiveLetters(n, quorum);
                for (int s = 0; s < n; s++) {
                    if (s != slow && x.requests(1, s) == 5) {
                        loseOne(x, s);
                    }
                }
                due("write, crowded at " + slow + " of " + n, x.write(1, 8), -4);
                due("read, crowded at " + slow + " of " + n, x.read(1), -4);
                loseOne(x, slow);
                due("four at each", x.write(1, 8), 0);
            }
        }
    }

    private void eachServerAlone() {
        sentence("more than 4 letters wait between the two");
        for (int replies = 0; replies <= 4; replies++) {
            Run x = withFiveLetters(5, 0, 1, 2);
            loseOne(x, 3);
            loseOne(x, 4);
            for (int i = 0; i < replies; i++) {
                x.deliver(1, 4, 0);
            }
            due("letters at 3", x.requests(1, 3), 4);
            due("letters at 4", x.requests(1, 4) + x.replies(1, 4), 4);
            due("eight letters at two servers", x.read(1), 0);
        }
    }

    private void eachClientAlone() {
        sentence("wait between the two");
        Run x = withFiveLetters(3, 0, 1);
        for (int c = 0; c < 5; c++) {
            due("write of client " + c, x.write(c, 8), c == 1 ? -4 : 0);
        }
        Run y = three(0);
        for (int c = 0; c < 5; c++) {
            Steps.write(y, c, 8, 0, 1);
        }
        for (int c = 0; c < 5; c++) {
            due("three letters each, of client " + c, y.read(c), 0);
        }
    }

    private void crashedServerCrowdsNobody() {
        sentence("a server that has not crashed");
        for (int replies = 0; replies <= 5; replies++) {
            for (boolean writing : new boolean[] {true, false}) {
                Run x = withFiveLetters(3, 0, 1);
                for (int i = 0; i < replies; i++) {
                    x.deliver(1, 2, 0);
                }
                due("write before", x.write(1, 8), -4);
                due("crash", x.crash(2), true);
                due("replies", x.replies(1, 2), replies);
                due("begin", writing ? x.write(1, 8) : x.read(1), 0);
            }
        }
        Run y = withFiveLetters(5, 0, 1, 2);
        y.crash(3);
        due("another one crowds still", y.write(1, 8), -4);
        y.crash(4);
        due("no more", y.write(1, 8), 0);
    }

    /** A read that looks again and again; the letters lie at server 2, then the rest are taken. */
    private void fourLettersAndAgain() {
        sentence("more than 4 letters wait between the two");
        for (int letters = 2; letters <= 6; letters++) {
            for (int replies = 0; replies <= letters; replies++) {
                Run x = Steps.withTagZeroDropped();
                Steps.upTo(5, x, 0, 0, 0, 1);
                Steps.rounds(x, 0, 0, 1);
                for (int i = 0; i < 2; i++) {
                    due("again", x.again(0), 0);
                    Steps.rounds(x, 0, 0, 1, 0, 1);
                }
                for (int gone = 6; gone > letters; gone--) {
                    x.deliver(0, 2, 0);
                    due("an old reply", x.hear(0, 2, 0), 0);
                }
                for (int i = 0; i < replies; i++) {
                    x.deliver(0, 2, 0);
                }
                due("letters", x.requests(0, 2) + x.replies(0, 2), letters);
                due("again with " + replies + " replies of " + letters, x.again(0),
                    letters > 4 ? -4 : 0);
                due("phase", x.phase(0), letters > 4 ? 5 : 4);
                due("heard", x.heard(0), letters > 4 ? 2 : 0);
                due("requests then", x.requests(0, 0), letters > 4 ? 0 : 1);
            }
        }
    }

    private void everyServerAndAgain() {
        sentence("A client is CROWDED when there is a server that has not crashed such that");
        for (int slow = 0; slow < 3; slow++) {
            int one = (slow + 1) % 3;
            int two = (slow + 2) % 3;
            Run x = three(0);
            Steps.upTo(2, x, 4, 99, one, two);
            x.deliver(4, one, 0);
            x.deliver(4, two, 0);
            Steps.upTo(5, x, 0, 0, one, two);
            Steps.rounds(x, 0, one, two);
            for (int i = 0; i < 2; i++) {
                x.again(0);
                Steps.rounds(x, 0, one, two, one, two);
            }
            due("six letters at " + slow, x.requests(0, slow), 6);
            due("again", x.again(0), -4);
            due("crash", x.crash(slow), true);
            due("again without it", x.again(0), 0);
        }
    }
}
