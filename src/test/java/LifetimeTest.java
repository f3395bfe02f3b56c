/** "What it is": every answer up to the 512th is promised, so runs of just so many calls are right. */
public final class LifetimeTest extends Sentences {
    public static void main(String[] args) {
        LifetimeTest test = new LifetimeTest();
        test.sentence("an object is used for at most 512 calls after it has been made");
        test.writes();
        test.reads();
        test.lookingAgain();
        test.refusedCalls();
        test.everyClientAtWork();
        test.checks.end();
    }

    private void due(Run x, String call, long got, long want) {
        due("call " + x.calls() + ": " + call, got, want);
    }

    private void dueEnd(Run x) {
        due("calls made", x.calls(), Run.MOST_CALLS);
    }

    /** One phase by the servers 0 and 1 of three. */
    private void phase(Run x, int c, int phase, int end) {
        for (int s = 0; s < 2; s++) {
            due(x, "deliver", x.deliver(c, s, 0), phase);
            due(x, "hear", x.hear(c, s, 0), s == 0 ? 1 : end);
        }
    }

    private void write(Run x, int c, long block) {
        due(x, "write", x.write(c, block), 0);
        phase(x, c, 1, 2);
        phase(x, c, 2, 2);
        phase(x, c, 3, 3);
    }

    private void read(Run x, int c) {
        due(x, "read", x.read(c), 0);
        phase(x, c, 4, 2);
        phase(x, c, 5, 3);
    }

    private static Run ofTwoServers() {
        Run x = new Run(3, 1, 0);
        x.crash(2);
        return x;
    }

    private void writes() {
        Run x = ofTwoServers();
        for (int i = 1; i <= 39; i++) {
            write(x, i % 5, i);
        }
        due(x, "tag", x.tag(4), 8 * 39 + 4);
        due(x, "finished", x.finished(4), 8);
        due(x, "heldTag", x.heldTag(0, 0), 8 * 39 + 4);
        due(x, "fragment", x.fragment(1, 8 * 39 + 4, 0), 39);
        dueEnd(x);
    }

    private void reads() {
        Run x = ofTwoServers();
        write(x, 3, -5);
        for (int i = 1; i <= 55; i++) {
            read(x, 0);
        }
        due(x, "finished", x.finished(0), 55);
        due(x, "seal", x.seal(0), 11);
        due(x, "result", x.result(0), -5);
        dueEnd(x);
    }

    private void lookingAgain() {
        Run x = ofTwoServers();
        due(x, "write", x.write(1, 7), 0);
        phase(x, 1, 1, 2);
        due(x, "deliver", x.deliver(1, 0, 0), 2);
        due(x, "deliver", x.deliver(1, 1, 0), 2);
        due(x, "read", x.read(0), 0);
        for (int i = 1; i <= 55; i++) {
            phase(x, 0, 4, 2);
            phase(x, 0, 5, 1);
            due(x, "again", x.again(0), 0);
        }
        due(x, "hear", x.hear(1, 0, 0), 1);
        due(x, "hear", x.hear(1, 1, 0), 2);
        due(x, "deliver", x.deliver(1, 0, 0), 3);
        due(x, "deliver", x.deliver(0, 0, 0), 4);
        due(x, "hear", x.hear(0, 0, 0), 1);
        due(x, "deliver", x.deliver(0, 1, 0), 4);
        due(x, "hear", x.hear(0, 1, 0), 2);
        due(x, "tag", x.tag(0), 9);
        dueEnd(x);
    }

    private void refusedCalls() {
        Run x = new Run(3, 3, 3);
        for (int i = 0; i < 60; i++) {
            due(x, "write", x.write(-1, i), -1);
            due(x, "read", x.read(5), -1);
            due(x, "again", x.again(0), -3);
            due(x, "deliver", x.deliver(0, 0, 0), -2);
            due(x, "hear", x.hear(4, 2, 0), -2);
            due("crash", x.crash(0), false);
            due("stop", x.stop(5), false);
            due(x, "fragment", x.fragment(0, 8, 0), -1);
        }
        due(x, "write", x.write(4, 0x070201L), 0);
        for (int phase = 1; phase <= 3; phase++) {
            for (int s = 0; s < 3; s++) {
                due(x, "deliver", x.deliver(4, s, 0), phase);
                due(x, "hear", x.hear(4, s, 0), s < 2 ? 1 : phase < 3 ? 2 : 3);
            }
        }
        while (x.calls() < Run.MOST_CALLS - 1) {
            due(x, "held", x.held(0), 2);
        }
        due(x, "fragment", x.fragment(0, 12, 0), 4);
        dueEnd(x);
    }

    /** As many letters as five clients and seven servers can have between them. */
    private void everyClientAtWork() {
        Run x = new Run(7, 1, 3);
        for (int c = 0; c < 5; c++) {
            operations(x, c);
        }
        while (x.calls() < Run.MOST_CALLS - 5) {
            due(x, "requests", x.requests(4, 6), 7);
        }
        for (int c = 0; c < 5; c++) {
            due(x, "requests", x.requests(c, 4 + c % 3), 7);
        }
        dueEnd(x);
    }

    /** Four letters and then three more lie at the servers 4 to 6, which never hear of client c. */
    private void operations(Run x, int c) {
        for (int i = 0; i < 2; i++) {
            due(x, "read", x.read(c), 0);
            for (int letter = 0; letter < 8; letter++) {
                x.deliver(c, letter % 4, 0);
                due(x, "hear", x.hear(c, letter % 4, 0), letter == 3 ? 2 : letter == 7 ? 3 : 1);
            }
        }
        due(x, "write", x.write(c, c), 0);
        for (int letter = 0; letter < 12; letter++) {
            x.deliver(c, letter % 4, 0);
            due(x, "hear", x.hear(c, letter % 4, 0), letter == 11 ? 3 : letter % 4 == 3 ? 2 : 1);
        }
    }
}
