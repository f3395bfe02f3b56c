/** "Terms": A TAG, A SERVER, and what A CLIENT's requests and replies are, sentence by sentence. */
public final class TermsClientTest extends Sentences {
    public static void main(String[] args) {
        TermsClientTest test = new TermsClientTest();
        test.overtaking();
        test.tags();
        test.tagZero();
        test.higherTag();
        test.newServer();
        test.oneOperation();
        test.oneRequestEach();
        test.requestWaits();
        test.atOnce();
        test.replyWaits();
        test.samePhase();
        test.laterPhase();
        test.otherOperation();
        test.otherBeginning();
        test.idle();
        test.thrownAway();
        test.checks.end();
    }

    private void overtaking() {
        sentence("Letters may be slow and may overtake one another");
        Run x = three(3);
        Steps.write(x, 0, 5, 0, 1);
        for (int phase = 3; phase >= 1; phase--) {
            due("the last sent is delivered first", x.deliver(0, 2, phase - 1), phase);
        }
        due("sealed before it is stored, and stored all the same", x.fragment(2, 8, 0), 5);
        due("seal", x.seal(2), 8);
        x.read(0);
        due("deliver", x.deliver(0, 2, 0), 4);
        due("the last reply is heard first", x.hear(0, 2, 3), 1);
        for (int j = 2; j >= 0; j--) {
            due("then the older ones", x.hear(0, 2, j), 0);
        }
        x.deliver(0, 1, 0);
        x.deliver(0, 0, 0);
        due("another server's reply overtakes", x.hear(0, 0, 0), 2);
        due("and that one is late", x.hear(0, 1, 0), 0);
    }

    private void tags() {
        sentence("A TAG is an int: 8 * number + client");
        for (int c = 0; c < 5; c++) {
            Run x = three(0);
            x.crash(2);
            for (int number = 1; number <= 18; number++) {
                Steps.write(x, c, number, 0, 1);
                due("tag of client " + c, x.tag(c), 8 * number + c);
            }
        }
    }

    private void tagZero() {
        sentence("Tag 0 is that of the block 0, which is in the register at first");
        for (Sizes sizes : Sizes.ALL) {
            Run x = sizes.run(0);
            due("read" + sizes.at(), Steps.read(x, 3, sizes.firstQuorum()), 3);
            due("tag" + sizes.at(), x.tag(3), 0);
            due("result" + sizes.at(), x.result(3), 0);
        }
    }

    private void higherTag() {
        sentence("Of two tags the greater int is the higher one");
        Run x = three(1);
        Steps.write(x, 4, 1, 0, 1);
        Steps.write(x, 0, 2, 0, 1);
        due("number 2 of client 0", x.tag(0), 16);
        due("deliver", x.deliver(0, 2, 2), 3);
        due("deliver", x.deliver(4, 2, 2), 3);
        due("16 is higher than 12", x.seal(2), 16);
        due("deliver", x.deliver(0, 2, 1), 2);
        due("deliver", x.deliver(4, 2, 1), 2);
        due("first 16", x.heldTag(2, 0), 16);
        due("then 12", x.heldTag(2, 1), 12);
        for (int low = 0; low < 4; low++) {
            equalNumbers(low);
        }
    }

    /** Of two tags with one number that of the later client is the greater int. */
    private void equalNumbers(int low) {
        int high = low + 1;
        Run x = three(1);
        x.write(low, 1);
        x.write(high, 2);
        for (int phase = 1; phase <= 2; phase++) {
            Steps.rounds(x, low, 0, 1);
            Steps.rounds(x, high, 0, 1);
        }
        due("first", x.heldTag(0, 0), 8 + high);
        due("then", x.heldTag(0, 1), 8 + low);
        x.deliver(high, 0, 0);
        x.deliver(low, 0, 0);
        due("seal, the higher first", x.seal(0), 8 + high);
        x.deliver(low, 1, 0);
        due("seal, the lower first", x.seal(1), 8 + low);
        x.deliver(high, 1, 0);
        due("seal, then the higher", x.seal(1), 8 + high);
    }

    private void newServer() {
        sentence("At first it holds its fragment of the block 0 under the tag 0,"
            + " and its seal is 0");
        for (Sizes sizes : Sizes.ALL) {
            Run x = sizes.run(3);
            for (int s = 0; s < sizes.n(); s++) {
                String at = sizes.at() + " of server " + s;
                due("held" + at, x.held(s), 1);
                due("heldTag 0" + at, x.heldTag(s, 0), 0);
                due("heldTag 1" + at, x.heldTag(s, 1), -1);
                due("seal" + at, x.seal(s), 0);
                for (int r = 0; r < sizes.l(); r++) {
                    due("fragment" + at, x.fragment(s, 0, r), 0);
                }
                due("fragment of tag 8" + at, x.fragment(s, 8, 0), -1);
            }
        }
    }

    private void oneOperation() {
        sentence("A CLIENT does one operation at a time");
        for (int phase = 1; phase <= 5; phase++) {
            Run x = three(0);
            Steps.upTo(phase, x, 2, 5, 0, 1);
            due("write in phase " + phase, x.write(2, 6), -3);
            due("read in phase " + phase, x.read(2), -3);
            due("phase", x.phase(2), phase);
            due("another client's write", x.write(1, 6), 0);
            due("another client's read", x.read(3), 0);
        }
    }

    private void oneRequestEach() {
        sentence("When a phase begins, the client sends one REQUEST to every server that has"
            + " not crashed");
        for (int crashed = -1; crashed < 5; crashed++) {
            for (int phase = 1; phase <= 5; phase++) {
                Run x = new Run(5, 1, 0);
                due("crash", x.crash(crashed), crashed >= 0);
                int[] quorum = crashed == 0 || crashed == 1 || crashed == 2
                    ? new int[] {(crashed + 1) % 3, (crashed + 2) % 3, 3} : new int[] {0, 1, 2};
                Steps.upTo(phase, x, 1, 5, quorum);
                due("phase", x.phase(1), phase);
                for (int s : quorum) {
                    due("requests at " + s + " in phase " + phase, x.requests(1, s), 1);
                }
                due("requests at 4 in phase " + phase, x.requests(1, 4),
                    crashed == 4 ? 0 : phase < 4 ? phase : phase - 3);
                due("requests at the crashed one", x.requests(1, crashed), crashed < 0 ? -1 : 0);
                due("requests of another client", x.requests(2, 4), 0);
            }
        }
    }

    private void requestWaits() {
        sentence("The request waits until it is delivered");
        Run x = three(3);
        Steps.write(x, 0, 5, 0, 1);
        Steps.write(x, 1, 6, 0, 1);
        Steps.read(x, 0, 0, 1);
        due("all five wait", x.requests(0, 2), 5);
        due("nothing was done", x.held(2) + x.seal(2), 1);
        for (int phase = 1; phase <= 5; phase++) {
            due("delivered at last", x.deliver(0, 2, 0), phase);
            due("one fewer", x.requests(0, 2), 5 - phase);
        }
        due("nothing waits", x.deliver(0, 2, 0), -2);
        due("the other's wait still", x.requests(1, 2), 3);
    }

    private void atOnce() {
        sentence("then the server at once does what the phase says, and sends a REPLY");
        Run x = three(0);
        Steps.upTo(2, x, 0, 0x77, 0, 1);
        due("replies", x.replies(0, 0), 0);
        x.deliver(0, 0, 0);
        due("held before it is heard", x.fragment(0, 8, 0), 0x77);
        due("replies", x.replies(0, 0), 1);
        x.hear(0, 0, 0);
        Steps.round(x, 0, 1);
        x.deliver(0, 1, 0);
        due("sealed before it is heard", x.seal(1), 8);
        due("replies", x.replies(0, 1), 1);
        Steps.upTo(5, x, 3, 0, 1, 2);
        x.deliver(3, 2, 0);
        due("sealed by fetching before it is heard", x.seal(2), 8);
        due("replies", x.replies(3, 2), 1);
        Run y = three(0);
        y.read(0);
        y.deliver(0, 0, 0);
        Steps.write(y, 1, 5, 0, 1);
        y.hear(0, 0, 0);
        Steps.round(y, 0, 2);
        due("the seal is that of the delivery", y.tag(0), 0);
    }

    private void replyWaits() {
        sentence("a REPLY, which waits until the client hears it");
        Run x = three(0);
        x.read(0);
        x.deliver(0, 2, 0);
        Steps.rounds(x, 0, 0, 1);
        due("finished", Steps.rounds(x, 0, 0, 1), 3);
        Steps.write(x, 1, 1, 0, 1);
        due("waits", x.replies(0, 2), 1);
        due("heard late", x.hear(0, 2, 0), 0);
        due("waits no more", x.replies(0, 2), 0);
        due("gone", x.hear(0, 2, 0), -2);
        Run y = three(0);
        y.read(0);
        y.deliver(0, 2, 0);
        Steps.write(y, 1, 1, 0, 1);
        due("waits", y.replies(0, 2), 1);
        due("heard in time", y.hear(0, 2, 0), 1);
    }

    private void samePhase() {
        sentence("A reply counts when the client hears it in the same phase in which the"
            + " request was sent");
        for (int phase = 1; phase <= 5; phase++) {
            Run x = three(0);
            Steps.upTo(phase, x, 0, 5, 0, 1);
            x.deliver(0, 2, x.requests(0, 2) - 1);
            due("hear in phase " + phase, x.hear(0, 2, 0), 1);
            due("heard", x.heard(0), 1);
            due("and another", Steps.round(x, 0, 1), phase == 3 || phase == 5 ? 3 : 2);
        }
    }

    /** Requests of every earlier phase, delivered or only heard when a later one is on. */
    private void laterPhase() {
        sentence("any other reply is thrown away when it is heard");
        for (int phase = 1; phase <= 5; phase++) {
            int first = phase <= 3 ? 1 : 4;
            for (int before = first; before < phase; before++) {
                Run x = three(0);
                Steps.upTo(phase, x, 0, 5, 0, 1);
                due("deliver", x.deliver(0, 2, before - first), before);
                due("one of " + before + " in " + phase, x.hear(0, 2, 0), 0);
                due("heard", x.heard(0), 0);
                Run y = three(0);
                Steps.upTo(before, y, 0, 5, 0, 1);
                y.deliver(0, 2, y.requests(0, 2) - 1);
                for (int p = before; p < phase; p++) {
                    Steps.rounds(y, 0, 0, 1);
                }
                due("phase", y.phase(0), phase);
                due("a reply of " + before + " in " + phase, y.hear(0, 2, 0), 0);
                due("heard", y.heard(0), 0);
                due("one that counts", Steps.round(y, 0, 0), 1);
            }
        }
    }

    /** A phase of one operation and a phase of the next one, the same number among them. */
    private void otherOperation() {
        sentence("(each beginning of a phase is another one)");
        for (int old = 1; old <= 5; old++) {
            for (int phase = 1; phase <= 5; phase++) {
                Run x = three(0);
                if (old <= 3) {
                    Steps.write(x, 0, 5, 0, 1);
                } else {
                    Steps.read(x, 0, 0, 1);
                }
                Steps.upTo(phase, x, 0, 6, 0, 1);
                due("deliver", x.deliver(0, 2, old <= 3 ? old - 1 : old - 4), old);
                due("an old one of " + old + " in " + phase, x.hear(0, 2, 0), 0);
                due("heard", x.heard(0), 0);
                due("phase", x.phase(0), phase);
                x.deliver(0, 2, x.requests(0, 2) - 1);
                due("a new one of " + phase, x.hear(0, 2, 0), 1);
            }
        }
    }

    /** The same read looks anew, so that the phases 4 and 5 begin twice in one operation. */
    private void otherBeginning() {
        sentence("(each beginning of a phase is another one)");
        for (int old = 4; old <= 5; old++) {
            for (int phase = 4; phase <= 5; phase++) {
                Run x = three(0);
                Steps.upTo(2, x, 1, 9, 0, 1);
                x.deliver(1, 0, 0);
                x.deliver(1, 1, 0);
                Steps.upTo(5, x, 0, 0, 0, 1);
                due("no fragment", Steps.rounds(x, 0, 0, 1), 1);
                due("again", x.again(0), 0);
                if (phase == 5) {
                    Steps.rounds(x, 0, 0, 1);
                }
                due("deliver", x.deliver(0, 2, old - 4), old);
                due("an old one of " + old + " in " + phase, x.hear(0, 2, 0), 0);
                due("heard", x.heard(0), 0);
                due("phase", x.phase(0), phase);
                x.deliver(0, 2, x.requests(0, 2) - 1);
                due("a new one of " + phase, x.hear(0, 2, 0), 1);
            }
        }
    }

    private void idle() {
        sentence("any other reply is thrown away when it is heard");
        Run x = three(0);
        Steps.write(x, 0, 5, 0, 1);
        Steps.read(x, 0, 0, 1);
        for (int phase = 1; phase <= 5; phase++) {
            due("deliver", x.deliver(0, 2, 0), phase);
            due("nothing is under way", x.hear(0, 2, 0), 0);
            due("heard", x.heard(0), 0);
            due("phase", x.phase(0), 0);
        }
        due("finished", x.finished(0), 2);
    }

    private void thrownAway() {
        sentence("any other reply is thrown away when it is heard");
        Run x = three(0);
        Run y = three(0);
        for (Run run : new Run[] {x, y}) {
            Steps.write(run, 4, 3, 0, 1);
            Steps.read(run, 0, 0, 1);
            Steps.upTo(5, run, 0, 0, 0, 1);
            for (int i = 0; i < 4; i++) {
                run.deliver(0, 2, 0);
            }
        }
        due("a look that is over", x.hear(0, 2, 2), 0);
        due("three are left", x.replies(0, 2), 3);
        due("a fetch that is over", x.hear(0, 2, 1), 0);
        due("two are left", x.replies(0, 2), 2);
        due("the first look's", x.hear(0, 2, 0), 0);
        due("the fetch that goes on is left", x.replies(0, 2), 1);
        due("nothing but the letters changed",
            Snapshot.of(x, 3, 8).replace(" replies(0, 2)=1", "").equals(
                Snapshot.of(y, 3, 8).replace(" replies(0, 2)=4", "")), true);
        due("it counts", x.hear(0, 2, 0), 1);
    }
}
