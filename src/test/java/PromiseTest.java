/** For each promise of the document its ordinary calls, the edges that it names, and wrong inputs. */
public final class PromiseTest extends Sentences {
    private static final int[] NO_CLIENTS = {-1, 5, 6, LOW, HIGH};

    public static void main(String[] args) {
        PromiseTest test = new PromiseTest();
        test.promise1();
        test.promise2();
        test.promise3();
        test.promise4();
        test.promise5();
        test.promise5Phases();
        test.promise6();
        test.promise6Fetch();
        test.promise7();
        test.promise8();
        test.promise9();
        test.promise10();
        test.promise11();
        test.promise12();
        test.promise12EveryQuorum();
        test.promise13();
        test.promise14();
        test.promise15();
        test.promise16();
        test.promise17();
        test.promise18();
        test.promise19();
        test.promise20();
        test.checks.end();
    }

    private static int serversOf(Run x) {
        int n = 0;
        while (n < 20 && x.seal(n) >= 0) {
            n++;
        }
        return n;
    }

    private static int fragmentLengthOf(Run x) {
        int length = 0;
        while (length < 20 && x.fragment(0, 0, length) >= 0) {
            length++;
        }
        return length;
    }

    private static int mostHeld(int d) {
        Run x = new Run(3, 1, d);
        for (int i = 0; i < 6; i++) {
            Steps.write(x, i % 5, i + 1, 0, 1);
        }
        return x.held(0);
    }

    private void promise1() {
        int[][] servers = {{LOW, 3}, {-5, 3}, {2, 3}, {3, 3}, {4, 4}, {6, 6}, {7, 7}, {8, 7}, {HIGH, 7}};
        for (int[] row : servers) {
            due("1: N of " + row[0], serversOf(new Run(row[0], 1, 0)), row[1]);
        }
        int[][] lengths = {
            {LOW, 8}, {0, 8}, {1, 8}, {2, 4}, {3, 3}, {4, 2}, {5, 2}, {6, 2}, {7, 2}, {8, 2}, {HIGH, 2}
        };
        for (int[] row : lengths) {
            due("1: L with K of " + row[0],
                fragmentLengthOf(new Run(7, row[0], 0)), row[1]);
        }
        due("1: K no more than N", fragmentLengthOf(new Run(3, 7, 0)), 3);
        due("1: K of the N that is taken", new Run(-1, 9, 0).quorum(), 3);
        int[][] held = {{LOW, 1}, {-1, 1}, {0, 1}, {1, 2}, {2, 3}, {3, 4}, {4, 4}, {HIGH, 4}};
        for (int[] row : held) {
            due("1: tags held with D of " + row[0], mostHeld(row[0]), row[1]);
        }
        Run x = new Run(7, 2, 3);
        for (int c = 0; c < 5; c++) {
            due("1: phase", x.phase(c), 0);
            due("1: heard", x.heard(c), 0);
            due("1: tag", x.tag(c), 0);
            due("1: result", x.result(c), 0);
            due("1: finished", x.finished(c), 0);
            for (int s = 0; s < 7; s++) {
                due("1: requests", x.requests(c, s), 0);
                due("1: replies", x.replies(c, s), 0);
            }
        }
        for (int s = 0; s < 7; s++) {
            due("1: held", x.held(s), 1);
            due("1: heldTag", x.heldTag(s, 0), 0);
            due("1: seal", x.seal(s), 0);
            for (int r = 0; r < 4; r++) {
                due("1: fragment", x.fragment(s, 0, r), 0);
            }
        }
    }

    private void promise2() {
        Run x = three(0);
        for (int c : NO_CLIENTS) {
            due("2: write of no client", x.write(c, 1), -1);
        }
        for (int c = 0; c < 5; c++) {
            due("2: write", x.write(c, c), 0);
            due("2: phase", x.phase(c), 1);
            for (int s = 0; s < 3; s++) {
                due("2: requests", x.requests(c, s), 1);
            }
            due("2: write under way", x.write(c, 1), -3);
            due("2: nothing sent", x.requests(c, 0), 1);
        }
        x.stop(0);
        due("2: crashed before under way", x.write(0, 1), -2);
        promise2Block();
        promise2Crowded();
    }

    private void promise2Block() {
        Run x = new Run(3, 3, 1);
        x.write(0, 0x0807060504030201L);
        due("2: refused", x.write(0, -1), -3);
        Steps.rounds(x, 0, 0, 1, 2);
        due("2: the block stays the first call's", Steps.rounds(x, 0, 0, 1, 2), 2);
        due("2: byte 0 at point 1", x.fragment(0, 8, 0), 1 ^ 2 ^ 3);
        due("2: finished", Steps.rounds(x, 0, 0, 1, 2), 3);
        due("2: write after a write", x.write(0, 7), 0);
    }

    private void promise2Crowded() {
        Run x = three(0);
        Steps.write(x, 1, 7, 0, 1);
        due("2: three letters lie", x.requests(1, 2), 3);
        due("2: not crowded by three", Steps.read(x, 1, 0, 1), 3);
        due("2: five letters lie", x.requests(1, 2), 5);
        due("2: crowded", x.write(1, 8), -4);
        due("2: crowded reader", x.read(1), -4);
        due("2: nothing sent to another server", x.requests(1, 0), 0);
        due("2: deliver", x.deliver(1, 2, 0), 1);
        due("2: a reply crowds like a request", x.write(1, 8), -4);
        due("2: another client is not crowded", x.write(2, 8), 0);
        due("2: hear", x.hear(1, 2, 0), 0);
        due("2: four letters do not crowd", Steps.write(x, 1, 8, 0, 1), 3);
        due("2: seven letters lie", x.requests(1, 2), 7);
        due("2: the last of seven", x.deliver(1, 2, 6), 3);
        due("2: crowded again", x.write(1, 9), -4);
        due("2: crash", x.crash(2), true);
        due("2: a crashed server crowds nobody", x.write(1, 9), 0);
        x.stop(1);
        due("2: crashed comes first", x.write(1, 9), -2);
        Run y = three(0);
        Steps.write(y, 1, 7, 0, 1);
        Steps.read(y, 1, 0, 1);
        for (int i = 0; i < 5; i++) {
            y.deliver(1, 2, 0);
        }
        due("2: crowded by replies alone", y.write(1, 8), -4);
        y.crash(2);
        due("2: five replies of a crashed server wait", y.replies(1, 2), 5);
        due("2: and crowd nobody", y.write(1, 8), 0);
    }

    private void promise3() {
        Run x = three(0);
        for (int c : NO_CLIENTS) {
            due("3: read of no client", x.read(c), -1);
        }
        for (int c = 0; c < 5; c++) {
            due("3: read", x.read(c), 0);
            due("3: phase", x.phase(c), 4);
            for (int s = 0; s < 3; s++) {
                due("3: requests", x.requests(c, s), 1);
            }
            due("3: read under way", x.read(c), -3);
            due("3: write under way", x.write(c, 1), -3);
        }
        x.stop(4);
        due("3: crashed", x.read(4), -2);
        Run y = three(0);
        Steps.write(y, 0, 5, 0, 1);
        Steps.read(y, 0, 0, 1);
        due("3: crowded", y.read(0), -4);
        due("3: nothing begun", y.phase(0), 0);
        y.deliver(0, 2, 4);
        due("3: crowded by a reply too", y.read(0), -4);
        y.hear(0, 2, 0);
        due("3: not crowded by four", y.read(0), 0);
        due("3: under way comes before crowded", y.read(0), -3);
        Run z = three(0);
        z.crash(1);
        z.read(0);
        due("3: no request to a crashed server", z.requests(0, 1), 0);
        due("3: a request to the others", z.requests(0, 2), 1);
    }

    private void promise4() {
        Run x = Steps.withTagZeroDropped();
        for (int c : NO_CLIENTS) {
            due("4: again of no client", x.again(c), -1);
        }
        due("4: again of an idle one", x.again(0), -3);
        due("4: again of a writer", x.again(4), -3);
        x.read(0);
        due("4: again in phase 4", x.again(0), -3);
        due("4: phase 5 begins", Steps.rounds(x, 0, 0, 1), 2);
        due("4: again with no reply", x.again(0), -3);
        due("4: one reply", Steps.round(x, 0, 0), 1);
        due("4: again with one reply", x.again(0), -3);
        due("4: two replies", Steps.round(x, 0, 1), 1);
        due("4: heard", x.heard(0), 2);
        due("4: again", x.again(0), 0);
        due("4: phase", x.phase(0), 4);
        due("4: heard anew", x.heard(0), 0);
        due("4: nothing finished", x.finished(0), 0);
        due("4: requests", x.requests(0, 0), 1);
        due("4: requests at the slow one", x.requests(0, 2), 3);
        due("4: the reply of the phase given up", x.deliver(0, 2, 1), 5);
        due("4: does not count", x.hear(0, 2, 0), 0);
        due("4: nor one of the first phase 4", x.deliver(0, 2, 0), 4);
        due("4: though the phase has the same number", x.hear(0, 2, 0), 0);
        Steps.rounds(x, 0, 0, 1);
        due("4: in phase 5 anew", x.phase(0), 5);
        due("4: finished by a fragment", Steps.rounds(x, 0, 0, 2), 3);
        due("4: one operation", x.finished(0), 1);
        due("4: again when finished", x.again(0), -3);
        promise4Crowded();
    }

    private void promise4Crowded() {
        Run x = Steps.withTagZeroDropped();
        x.read(0);
        Steps.rounds(x, 0, 0, 1, 0, 1);
        due("4: two lie", x.requests(0, 2), 2);
        due("4: first again", x.again(0), 0);
        Steps.rounds(x, 0, 0, 1, 0, 1);
        due("4: four lie", x.requests(0, 2), 4);
        due("4: second again", x.again(0), 0);
        Steps.rounds(x, 0, 0, 1);
        due("4: not now comes before crowded", x.again(0), -3);
        Steps.rounds(x, 0, 0, 1);
        due("4: six lie", x.requests(0, 2), 6);
        due("4: crowded", x.again(0), -4);
        due("4: still in phase 5", x.phase(0), 5);
        due("4: still two heard", x.heard(0), 2);
        due("4: crash of the slow one", x.crash(2), true);
        due("4: crowded no more", x.again(0), 0);
        x.stop(0);
        due("4: crashed", x.again(0), -2);
    }

    private void promise5() {
        Run x = three(0);
        x.write(0, 5);
        for (int c : NO_CLIENTS) {
            due("5: deliver of no client", x.deliver(c, 0, 0), -1);
        }
        for (int s : new int[] {-1, 3, 4, LOW, HIGH}) {
            due("5: deliver at no server", x.deliver(0, s, 0), -1);
        }
        due("5: no server comes before no request", x.deliver(0, 3, 9), -1);
        for (int j : new int[] {-1, 1, 2, LOW, HIGH}) {
            due("5: no such request", x.deliver(0, 0, j), -2);
        }
        due("5: no request of that client", x.deliver(1, 0, 0), -2);
        due("5: still there", x.requests(0, 0), 1);
        due("5: deliver", x.deliver(0, 0, 0), 1);
        due("5: one fewer", x.requests(0, 0), 0);
        due("5: a reply", x.replies(0, 0), 1);
        due("5: gone", x.deliver(0, 0, 0), -2);
        x.crash(2);
        due("5: at a crashed server", x.deliver(0, 2, 0), -2);
        x.stop(0);
        due("5: of a crashed client", x.deliver(0, 1, 0), 1);
        due("5: its reply", x.replies(0, 1), 1);
    }

    private void promise5Phases() {
        Run x = three(0);
        Steps.write(x, 0, 5, 0, 1);
        due("5: place 1", x.deliver(0, 2, 1), 2);
        due("5: the tag 0 is dropped", x.heldTag(2, 0), 8);
        due("5: store does not seal", x.seal(2), 0);
        due("5: place 1 of the rest", x.deliver(0, 2, 1), 3);
        due("5: seal", x.seal(2), 8);
        due("5: place 0", x.deliver(0, 2, 0), 1);
        due("5: replies in the order of deliveries", x.replies(0, 2), 3);
        due("5: ask does not change the seal", x.seal(2), 8);
        x.read(3);
        Steps.rounds(x, 3, 0, 1);
        due("5: look", x.deliver(3, 2, 0), 4);
        due("5: fetch", x.deliver(3, 2, 0), 5);
        promise5Order();
        Run y = three(0);
        Steps.write(y, 0, 5, 0, 1);
        Steps.writeUpToStore(y, 1, 6, 0, 1);
        due("5: a lower tag's store", y.deliver(0, 2, 1), 2);
        due("5: a higher tag's store", y.deliver(1, 2, 1), 2);
        due("5: the lower one is dropped", y.heldTag(2, 0), 17);
        due("5: a lower tag's seal first", y.deliver(0, 2, 1), 3);
        due("5: seal", y.seal(2), 8);
        Steps.rounds(y, 1, 0, 1);
        Steps.rounds(y, 1, 0, 1);
        due("5: the higher seal", y.deliver(1, 2, 1), 3);
        due("5: seal", y.seal(2), 17);
    }

    private void promise5Order() {
        Run x = three(0);
        Steps.write(x, 0, 5, 0, 1);
        Steps.read(x, 0, 0, 1);
        due("5: from the middle of five", x.deliver(0, 2, 1), 2);
        for (int phase : new int[] {1, 3, 4, 5}) {
            due("5: the others in the order of sending", x.deliver(0, 2, 0), phase);
        }
    }

    private void promise6() {
        Run x = three(0);
        x.write(0, 5);
        due("6: no reply yet", x.hear(0, 0, 0), -2);
        x.deliver(0, 0, 0);
        for (int c : NO_CLIENTS) {
            due("6: hear of no client", x.hear(c, 0, 0), -1);
        }
        for (int s : new int[] {-1, 3, 4, LOW, HIGH}) {
            due("6: hear from no server", x.hear(0, s, 0), -1);
        }
        for (int j : new int[] {-1, 1, LOW, HIGH}) {
            due("6: no such reply", x.hear(0, 0, j), -2);
        }
        due("6: nothing heard", x.heard(0), 0);
        due("6: counts", x.hear(0, 0, 0), 1);
        due("6: gone", x.hear(0, 0, 0), -2);
        due("6: phase 2 begins", Steps.round(x, 0, 1), 2);
        due("6: a late reply", x.deliver(0, 2, 0), 1);
        due("6: does not count", x.hear(0, 2, 0), 0);
        due("6: thrown away", x.replies(0, 2), 0);
        due("6: phase 2 goes on", Steps.round(x, 0, 0), 1);
        due("6: phase 3 begins", Steps.round(x, 0, 1), 2);
        due("6: phase 3 goes on", Steps.round(x, 0, 0), 1);
        due("6: finished", Steps.round(x, 0, 1), 3);
        due("6: a reply of the last phase", Steps.round(x, 0, 2), 0);
        due("6: finished once", x.finished(0), 1);
        x.read(0);
        due("6: phase 5 begins", Steps.rounds(x, 0, 0, 1), 2);
        due("6: finished", Steps.rounds(x, 0, 0, 1), 3);
        x.crash(2);
        x.write(1, 5);
        x.deliver(1, 0, 0);
        x.stop(1);
        due("6: a crashed client", x.hear(1, 0, 0), 0);
        due("6: thrown away there too", x.replies(1, 0), 0);
        promise6CrashedServer();
        promise6Places();
    }

    private void promise6CrashedServer() {
        Run x = three(0);
        x.read(0);
        x.deliver(0, 2, 0);
        x.crash(2);
        due("6: a crashed server's reply waits", x.replies(0, 2), 1);
        due("6: and counts", x.hear(0, 2, 0), 1);
        due("6: towards the quorum", Steps.round(x, 0, 0), 2);
        due("6: no request to it", x.requests(0, 2), 0);
    }

    private void promise6Places() {
        Run x = three(0);
        x.write(0, 5);
        Steps.rounds(x, 0, 0, 1);
        x.deliver(0, 2, 0);
        x.deliver(0, 2, 0);
        due("6: place 0 is the older", x.hear(0, 2, 0), 0);
        due("6: then the younger", x.hear(0, 2, 0), 1);
        Run y = three(0);
        y.write(0, 5);
        Steps.rounds(y, 0, 0, 1);
        y.deliver(0, 2, 0);
        y.deliver(0, 2, 0);
        due("6: place 1 is the younger", y.hear(0, 2, 1), 1);
        due("6: the older is left", y.hear(0, 2, 0), 0);
    }

    private void promise6Fetch() {
        Run x = new Run(5, 3, 0);
        Steps.writeUpToStore(x, 1, 77, 0, 1, 2, 3);
        x.deliver(1, 0, 0);
        x.deliver(1, 1, 0);
        x.read(0);
        due("6: look", Steps.rounds(x, 0, 0, 1, 2), 1);
        due("6: fetch begins", Steps.round(x, 0, 3), 2);
        due("6: three replies, one fragment", Steps.rounds(x, 0, 0, 1, 2), 1);
        due("6: quorum, but two fragments", Steps.round(x, 0, 3), 1);
        due("6: heard", x.heard(0), 4);
        due("6: the look of the last one", x.deliver(0, 4, 0), 4);
        due("6: does not count", x.hear(0, 4, 0), 0);
        due("6: the third fragment finishes", Steps.round(x, 0, 4), 3);
        Run y = new Run(5, 3, 0);
        y.read(0);
        Steps.rounds(y, 0, 0, 1, 2, 3);
        due("6: three fragments, but no quorum", Steps.rounds(y, 0, 0, 1, 2), 1);
        due("6: the quorum finishes", Steps.round(y, 0, 4), 3);
    }

    private void promise7() {
        int[][] most = {{3, 1, 1}, {3, 2, 0}, {3, 3, 0}, {4, 1, 1}, {4, 2, 1}, {5, 1, 2}, {5, 3, 1},
            {6, 1, 2}, {7, 1, 3}, {7, 2, 2}, {7, 3, 2}, {7, 5, 1}, {7, 6, 0}, {7, 7, 0}};
        for (int[] row : most) {
            Run x = new Run(row[0], row[1], 0);
            for (int s = 0; s < row[0]; s++) {
                due("7: crash " + s + " of " + row[0] + ", " + row[1], x.crash(s), s < row[2]);
            }
        }
        Run x = new Run(7, 3, 1);
        for (int s : new int[] {-1, 7, 8, LOW, HIGH}) {
            due("7: no server", x.crash(s), false);
        }
        Steps.write(x, 0, 0x1122334455667788L, 0, 1, 2, 3, 4, 5);
        x.read(1);
        x.deliver(1, 3, 0);
        due("7: crash", x.crash(3), true);
        due("7: crashed already", x.crash(3), false);
        due("7: requests are lost", x.requests(1, 3), 0);
        due("7: of the others too", x.requests(0, 3), 0);
        due("7: replies stay", x.replies(1, 3), 1);
        due("7: another server's requests stay", x.requests(1, 4), 1);
        due("7: held stays", x.held(3), 2);
        due("7: fragment stays", x.fragment(3, 8, 0) >= 0, true);
        due("7: seal stays", x.seal(3), 8);
        due("7: finished without it", Steps.rounds(x, 1, 0, 1, 2, 4, 5), 2);
        due("7: no more requests", x.requests(1, 3), 0);
        due("7: crash of a second", x.crash(0), true);
        due("7: no third", x.crash(1), false);
        due("7: the third works", x.deliver(1, 1, 0), 5);
    }

    private void promise8() {
        Run x = three(0);
        for (int c : NO_CLIENTS) {
            due("8: no client", x.stop(c), false);
        }
        Steps.writeUpToStore(x, 0, 5, 0, 1);
        x.deliver(0, 0, 0);
        due("8: stop", x.stop(0), true);
        due("8: stopped already", x.stop(0), false);
        due("8: its request waits", x.requests(0, 1), 1);
        due("8: and is delivered", x.deliver(0, 1, 0), 2);
        due("8: and stored", x.heldTag(1, 0), 8);
        due("8: its replies never count", x.hear(0, 0, 0), 0);
        due("8: nor this one", x.hear(0, 1, 0), 0);
        due("8: no next phase", x.requests(0, 0), 0);
        due("8: never finished", x.finished(0), 0);
        due("8: no write", x.write(0, 1), -2);
        due("8: no read", x.read(0), -2);
        due("8: no again", x.again(0), -2);
        for (int c = 1; c < 5; c++) {
            due("8: every client may stop", x.stop(c), true);
        }
        due("8: an idle one is crashed too", x.phase(4), 6);
    }

    private void promise9() {
        Run x = three(0);
        for (int c : NO_CLIENTS) {
            due("9: no client", x.phase(c), -1);
        }
        due("9: idle", x.phase(2), 0);
        x.write(2, 1);
        due("9: ask", x.phase(2), 1);
        Steps.rounds(x, 2, 0, 1);
        due("9: store", x.phase(2), 2);
        Steps.rounds(x, 2, 0, 1);
        due("9: seal", x.phase(2), 3);
        Steps.rounds(x, 2, 0, 1);
        due("9: finished", x.phase(2), 0);
        x.read(2);
        due("9: look", x.phase(2), 4);
        Steps.rounds(x, 2, 0, 1);
        due("9: fetch", x.phase(2), 5);
        Steps.rounds(x, 2, 0);
        due("9: fetch goes on", x.phase(2), 5);
        Steps.rounds(x, 2, 1);
        due("9: read finished", x.phase(2), 0);
        due("9: another client", x.phase(1), 0);
        x.write(1, 1);
        x.stop(1);
        due("9: crashed at work", x.phase(1), 6);
    }

    private void promise10() {
        Run x = new Run(7, 3, 0);
        for (int c : NO_CLIENTS) {
            due("10: no client", x.heard(c), -1);
        }
        due("10: idle", x.heard(0), 0);
        x.read(0);
        for (int s = 0; s < 4; s++) {
            x.deliver(0, s, 0);
            due("10: not by delivering", x.heard(0), s);
            x.hear(0, s, 0);
            due("10: heard", x.heard(0), s + 1);
        }
        Steps.round(x, 0, 4);
        due("10: the next phase from 0", x.heard(0), 0);
        Steps.rounds(x, 0, 0, 1, 2);
        due("10: heard in fetch", x.heard(0), 3);
        x.deliver(0, 6, 0);
        x.hear(0, 6, 0);
        due("10: a late reply is not counted", x.heard(0), 3);
        Steps.rounds(x, 0, 3, 4);
        due("10: finished", x.heard(0), 0);
        x.write(1, 5);
        Steps.rounds(x, 1, 0, 1);
        x.stop(1);
        due("10: crashed", x.heard(1), 0);
        Run y = Steps.withTagZeroDropped();
        Steps.writeUpToStore(y, 3, 98, 0, 1);
        y.deliver(3, 2, 1);
        y.read(0);
        Steps.rounds(y, 0, 0, 1);
        Steps.rounds(y, 0, 0, 1, 2);
        due("10: more than the quorum", y.heard(0), 3);
        due("10: still in fetch", y.phase(0), 5);
    }

    private void promise11() {
        Run x = new Run(3, 1, 3);
        for (int c : NO_CLIENTS) {
            due("11: no client", x.tag(c), -1);
        }
        due("11: never", x.tag(3), 0);
        x.write(3, 1);
        Steps.round(x, 3, 0);
        due("11: not before the quorum", x.tag(3), 0);
        Steps.round(x, 3, 1);
        due("11: 8 * 1 + 3", x.tag(3), 11);
        Steps.rounds(x, 3, 0, 1);
        Steps.rounds(x, 3, 0, 1);
        due("11: stays when finished", x.tag(3), 11);
        Steps.write(x, 1, 2, 1, 2);
        due("11: 8 * 2 + 1, by a seal at one of two", x.tag(1), 17);
        Steps.write(x, 4, 2, 2, 0);
        due("11: 8 * 3 + 4", x.tag(4), 28);
        Steps.write(x, 4, 2, 0, 1);
        due("11: 8 * 4 + 4", x.tag(4), 36);
        x.read(0);
        Steps.round(x, 0, 2);
        due("11: a lower seal alone does nothing", x.tag(0), 0);
        Steps.round(x, 0, 1);
        due("11: the highest seal of the replies", x.tag(0), 36);
        x.read(3);
        due("11: a new operation does not change it", x.tag(3), 11);
        x.stop(3);
        due("11: nor a crash", x.tag(3), 11);
        promise11SealsHeard();
    }

    private void promise11SealsHeard() {
        Run x = three(0);
        x.read(0);
        x.write(2, 7);
        x.deliver(0, 0, 0);
        x.deliver(2, 0, 0);
        Steps.write(x, 1, 5, 0, 1);
        due("11: the seal as it was at the delivery", x.hear(0, 0, 0), 1);
        x.deliver(0, 2, 0);
        due("11: look ends", x.hear(0, 2, 0), 2);
        due("11: old seals give the old tag", x.tag(0), 0);
        x.hear(2, 0, 0);
        Steps.round(x, 2, 2);
        due("11: a write with old seals", x.tag(2), 10);
        Run y = three(0);
        Steps.write(y, 4, 5, 0, 1);
        y.read(0);
        due("11: first a high one", Steps.round(y, 0, 0), 1);
        due("11: then a low one", Steps.round(y, 0, 2), 2);
        due("11: the highest", y.tag(0), 12);
    }

    private void promise12() {
        Run x = new Run(5, 3, 1);
        for (int c : NO_CLIENTS) {
            due("12: no client", x.result(c), 0);
        }
        due("12: none finished", x.result(0), 0);
        Steps.read(x, 0, 0, 1, 2, 3);
        due("12: the block 0", x.result(0), 0);
        due("12: finished", x.finished(0), 1);
        long[] blocks = {1, -1, Long.MIN_VALUE, Long.MAX_VALUE, 0x0123456789ABCDEFL, 0xFF00FF00FF00FF00L};
        for (int i = 0; i < blocks.length; i++) {
            Run y = new Run(5, 3, 1);
            Steps.write(y, 1, blocks[i], 0, 1, 2, 3);
            due("12: a writer has none", y.result(1), 0);
            y.read(2);
            Steps.rounds(y, 2, 1, 2, 3, 4);
            due("12: not before it is finished", y.result(2), 0);
            due("12: finished", Steps.rounds(y, 2, 3, 2, 1, 0), 3);
            due("12: the block", y.result(2), blocks[i]);
            Steps.write(y, 1, 1000 + i, 0, 1, 2, 3);
            due("12: until the next read", y.result(2), blocks[i]);
            Steps.read(y, 2, 0, 1, 2, 3);
            due("12: the latest read", y.result(2), 1000 + i);
            y.stop(2);
            due("12: a crash does not change it", y.result(2), 1000 + i);
        }
    }

    /** Writes by one quorum and reads by every other one, so that each K servers decode. */
    private void promise12EveryQuorum() {
        for (int n = 3; n <= 7; n++) {
            for (int k = 1; k <= n; k++) {
                int q = n - (n - k) / 2;
                for (int set = 0; set < 1 << n; set++) {
                    if (Integer.bitCount(set) == q) {
                        writeAndRead(n, k, set);
                    }
                }
            }
        }
    }

    private void writeAndRead(int n, int k, int set) {
        Run x = new Run(n, k, 1);
        int q = Integer.bitCount(set);
        int[] quorum = new int[q];
        int[] backwards = new int[q];
        int count = 0;
        for (int s = 0; s < n; s++) {
            if ((set >> s & 1) == 1) {
                quorum[count] = s;
                backwards[q - 1 - count] = s;
                count++;
            }
        }
        long block = 0x9E3779B97F4A7C15L * (set + 1L) + k;
        String at = "12: N " + n + ", K " + k + ", servers " + Integer.toBinaryString(set);
        due(at + ": write", Steps.write(x, 0, block, quorum), 3);
        due(at + ": read", Steps.read(x, 1, backwards), 3);
        due(at + ": result", x.result(1), block);
    }

    private void promise13() {
        Run x = three(0);
        for (int c : NO_CLIENTS) {
            due("13: no client", x.finished(c), -1);
        }
        due("13: none", x.finished(0), 0);
        Steps.write(x, 0, 5, 0, 1);
        due("13: a write", x.finished(0), 1);
        Steps.read(x, 0, 0, 1);
        due("13: and a read", x.finished(0), 2);
        due("13: of that client alone", x.finished(1), 0);
        Steps.writeUpToStore(x, 1, 6, 0, 1);
        due("13: not one under way", x.finished(1), 0);
        Steps.read(x, 2, 0, 1);
        x.read(2);
        x.stop(2);
        due("13: a crash does not change it", x.finished(2), 1);
    }

    private void promise14() {
        Run x = new Run(3, 1, 1);
        for (int s : new int[] {-1, 3, 7, LOW, HIGH}) {
            due("14: no server", x.held(s), -1);
        }
        due("14: at first", x.held(0), 1);
        Steps.writeUpToStore(x, 0, 5, 0, 1);
        due("14: not by asking", x.held(0), 1);
        x.deliver(0, 0, 0);
        due("14: by storing", x.held(0), 2);
        due("14: elsewhere not", x.held(1), 1);
        Steps.writeUpToStore(x, 1, 6, 0, 1);
        x.deliver(1, 0, 0);
        due("14: no more than D + 1", x.held(0), 2);
    }

    private void promise15() {
        Run x = new Run(3, 1, 2);
        for (int c = 0; c < 5; c++) {
            x.write(c, 100 + c);
        }
        for (int c = 0; c < 5; c++) {
            Steps.rounds(x, c, 0, 1);
        }
        for (int s : new int[] {-1, 3, LOW, HIGH}) {
            due("15: no server", x.heldTag(s, 0), -1);
        }
        x.deliver(2, 0, 0);
        x.deliver(0, 0, 0);
        dueTags(x, 10, 8, 0);
        x.deliver(4, 0, 0);
        dueTags(x, 12, 10, 8);
        x.deliver(3, 0, 0);
        dueTags(x, 12, 11, 10);
        x.deliver(1, 0, 0);
        dueTags(x, 12, 11, 10);
        due("15: the new one is dropped", x.fragment(0, 9, 0), -1);
        due("15: its store is answered all the same", x.replies(1, 0), 1);
        for (int i : new int[] {-1, 3, 4, 5, LOW, HIGH}) {
            due("15: no place", x.heldTag(0, i), -1);
        }
        due("15: of one tag", x.heldTag(2, 0), 0);
        due("15: no second", x.heldTag(2, 1), -1);
    }

    private void dueTags(Run x, int... tags) {
        due("15: held", x.held(0), tags.length);
        for (int i = 0; i < tags.length; i++) {
            due("15: tag " + i, x.heldTag(0, i), tags[i]);
        }
    }

    private void promise16() {
        for (int n = 3; n <= 7; n++) {
            for (int k = 1; k <= n; k++) {
                fragmentsOf(n, k, 0x0102030405060708L);
                fragmentsOf(n, k, -1);
                fragmentsOf(n, k, 0xF1E2D3C4B5A69788L);
                fragmentsOf(n, k, 0x80L << 56);
            }
        }
        Run x = new Run(5, 3, 0);
        due("16: of the block 0", x.fragment(0, 0, 0), 0);
        for (int s : new int[] {-1, 5, 7, LOW, HIGH}) {
            due("16: no server", x.fragment(s, 0, 0), -1);
        }
        for (int tag : new int[] {-1, 1, 8, LOW, HIGH}) {
            due("16: no such tag", x.fragment(0, tag, 0), -1);
        }
        for (int r : new int[] {-1, 3, 4, 8, LOW, HIGH}) {
            due("16: no such byte", x.fragment(0, 0, r), -1);
        }
        Steps.write(x, 2, -1, 0, 1, 2, 3);
        due("16: dropped", x.fragment(0, 0, 0), -1);
        due("16: 1 + 1 + 1 times 255", x.fragment(0, 10, 0), 255);
        due("16: the bytes 6, 7 and none", x.fragment(0, 10, 2), 0);
        // 255 * (1 + 2 + 4) = 255 ^ 227 ^ 219, reduced by hand modulo 0x11D.
        due("16: at point 2", x.fragment(1, 10, 0), 255 ^ 227 ^ 219);
    }

    private void fragmentsOf(int n, int k, long block) {
        Run x = new Run(n, k, 0);
        int[] quorum = new int[x.quorum()];
        for (int s = 0; s < quorum.length; s++) {
            quorum[s] = s;
        }
        Steps.writeUpToStore(x, 0, block, quorum);
        for (int s = 0; s < n; s++) {
            x.deliver(0, s, x.requests(0, s) - 1);
            for (int r = 0; r < Bytes.length(k); r++) {
                due("16: N " + n + ", K " + k + ", block " + block + ", server " + s + ", byte " + r,
                    x.fragment(s, 8, r), Bytes.fragmentByte(block, k, s, r));
            }
            due("16: no more bytes", x.fragment(s, 8, Bytes.length(k)), -1);
        }
    }

    private void promise17() {
        Run x = three(0);
        for (int s : new int[] {-1, 3, 7, LOW, HIGH}) {
            due("17: no server", x.seal(s), -1);
        }
        x.write(0, 1);
        x.write(1, 2);
        Steps.rounds(x, 0, 0, 1);
        Steps.rounds(x, 1, 0, 1);
        Steps.rounds(x, 0, 0, 1);
        Steps.rounds(x, 1, 0, 1);
        due("17: not by storing", x.seal(0), 0);
        x.deliver(1, 0, 0);
        due("17: the higher tag", x.seal(0), 9);
        x.deliver(0, 0, 0);
        due("17: not the lower one", x.seal(0), 9);
        x.deliver(0, 1, 0);
        due("17: elsewhere the lower one", x.seal(1), 8);
        x.deliver(1, 1, 0);
        due("17: then the higher one", x.seal(1), 9);
        x.read(3);
        Steps.rounds(x, 3, 0, 1);
        due("17: not yet", x.seal(2), 0);
        x.deliver(3, 2, 0);
        due("17: not by looking", x.seal(2), 0);
        x.deliver(3, 2, 0);
        due("17: by fetching", x.seal(2), 9);
        Run y = three(0);
        y.read(0);
        Steps.rounds(y, 0, 0, 1);
        Steps.write(y, 1, 5, 0, 1);
        y.deliver(0, 0, 0);
        due("17: a fetch of a lower tag", y.seal(0), 9);
    }

    private void promise18() {
        Run x = three(0);
        for (int c : NO_CLIENTS) {
            due("18: no client", x.requests(c, 0), -1);
        }
        for (int s : new int[] {-1, 3, 7, LOW, HIGH}) {
            due("18: no server", x.requests(0, s), -1);
        }
        Steps.write(x, 0, 1, 0, 1);
        due("18: all answered", x.requests(0, 0), 0);
        due("18: three phases", x.requests(0, 2), 3);
        due("18: of another client", x.requests(1, 2), 0);
        x.deliver(0, 2, 1);
        due("18: delivered", x.requests(0, 2), 2);
        x.crash(2);
        due("18: lost", x.requests(0, 2), 0);
        x.write(1, 1);
        due("18: none sent", x.requests(1, 2), 0);
        x.stop(1);
        due("18: a client's crash loses none", x.requests(1, 1), 1);
    }

    private void promise19() {
        Run x = three(0);
        for (int c : NO_CLIENTS) {
            due("19: no client", x.replies(c, 0), -1);
        }
        for (int s : new int[] {-1, 3, 7, LOW, HIGH}) {
            due("19: no server", x.replies(0, s), -1);
        }
        Steps.write(x, 0, 1, 0, 1);
        due("19: none before delivery", x.replies(0, 2), 0);
        for (int i = 1; i <= 3; i++) {
            x.deliver(0, 2, 0);
            due("19: one a delivery", x.replies(0, 2), i);
        }
        due("19: for another client", x.replies(1, 2), 0);
        x.crash(2);
        due("19: a crash loses none", x.replies(0, 2), 3);
        x.stop(0);
        due("19: nor a client's", x.replies(0, 2), 3);
        x.hear(0, 2, 1);
        due("19: heard", x.replies(0, 2), 2);
    }

    private void promise20() {
        int[][] quorums = {
            {2, 3, 3}, {3, 3, 4, 4}, {3, 4, 4, 5, 5}, {4, 4, 5, 5, 6, 6}, {4, 5, 5, 6, 6, 7, 7}
        };
        for (int n = 3; n <= 7; n++) {
            for (int k = 1; k <= n; k++) {
                due("20: N " + n + ", K " + k,
                    new Run(n, k, 0).quorum(), quorums[n - 3][k - 1]);
            }
        }
        Run x = three(0);
        x.crash(0);
        due("20: a crash does not change it", x.quorum(), 2);
    }
}
