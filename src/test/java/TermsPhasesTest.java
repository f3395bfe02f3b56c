import java.util.ArrayList;
import java.util.Collections;
import java.util.List;
import java.util.TreeSet;

/** "Terms": the five phases, a test for each sentence and each "as soon as" among them. */
public final class TermsPhasesTest extends Sentences {
    public static void main(String[] args) {
        TermsPhasesTest test = new TermsPhasesTest();
        test.firstPhases();
        test.askReply();
        test.askEnds();
        test.askTag();
        test.askRoundsDown();
        test.askHighest();
        test.askTheseReplies();
        test.storeBears();
        test.storeHoldsToo();
        test.storeUpToD();
        test.storeDropsLowest();
        test.storeDropsTheNew();
        test.storeEveryOrder();
        test.storeEnds();
        test.sealRises();
        test.sealEnds();
        test.lookReply();
        test.lookEnds();
        test.lookHighest();
        test.fetchSeals();
        test.fetchBears();
        test.fetchBearsAsDelivered();
        test.fetchEnds();
        test.fetchResult();
        test.fetchTagZero();
        test.fetchGoesOn();
        test.checks.end();
    }

    /** In the phase just Q replies count, those before the last without an end. */
    private void endsAtQuorum(int phase, int end) {
        for (Sizes sizes : Sizes.ALL) {
            Run x = sizes.run(0);
            Steps.upTo(phase, x, 3, 0x0102030405060708L, sizes.firstQuorum());
            for (int i = 1; i < sizes.q(); i++) {
                due("reply " + i + sizes.at(), Steps.round(x, 3, sizes.n() - i), 1);
                due("heard" + sizes.at(), x.heard(3), i);
                due("phase" + sizes.at(), x.phase(3), phase);
                due("finished" + sizes.at(), x.finished(3), 0);
            }
            due("reply Q" + sizes.at(), Steps.round(x, 3, 0), end);
            due("heard then" + sizes.at(), x.heard(3), 0);
            due("phase then" + sizes.at(), x.phase(3), end == 2 ? phase + 1 : 0);
            due("finished then" + sizes.at(), x.finished(3), end == 2 ? 0 : 1);
            due("requests then" + sizes.at(), x.requests(3, 0), end == 2 ? 1 : 0);
        }
    }

    private void firstPhases() {
        sentence("1 ASK, the first one of a write ... 4 LOOK, the first one of a read");
        for (int c = 0; c < 5; c++) {
            Run x = three(0);
            x.write(c, 5);
            due("a write's", x.phase(c), 1);
            due("its letter", x.deliver(c, 1, 0), 1);
            Run y = three(0);
            y.read(c);
            due("a read's", y.phase(c), 4);
            due("its letter", y.deliver(c, 1, 0), 4);
        }
    }

    private void askReply() {
        sentence("1 ASK ... Reply: the server's seal");
        for (int writer = 0; writer < 5; writer++) {
            Run x = three(0);
            Steps.write(x, writer, 5, 0, 1);
            due("sealed", Steps.write(x, 2, 6, 1, 2), 3);
            due("tag", x.tag(2), 18);
            Steps.write(x, 0, 7, 0, 2);
            due("tag", x.tag(0), 24);
        }
        Run y = three(0);
        y.write(0, 1);
        y.deliver(0, 0, 0);
        due("asking changes no seal", y.seal(0), 0);
        due("and stores nothing", y.held(0), 1);
    }

    private void askEnds() {
        sentence("1 ASK ... As soon as Q replies count ... phase 2 begins");
        endsAtQuorum(1, 2);
    }

    private void askTag() {
        sentence("the client's TAG becomes 8 * (m + 1) + client");
        for (Sizes sizes : Sizes.ALL) {
            for (int c = 0; c < 5; c++) {
                Run x = sizes.run(0);
                x.write(c, 1);
                int[] quorum = sizes.firstQuorum();
                for (int s = 0; s < quorum.length; s++) {
                    due("tag before" + sizes.at(), x.tag(c), 0);
                    Steps.round(x, c, s);
                }
                due("tag then" + sizes.at(), x.tag(c), 8 + c);
            }
        }
    }

    private void askRoundsDown() {
        sentence("where m is t / 8 rounded down");
        for (int writer = 0; writer < 5; writer++) {
            for (int c = 0; c < 5; c++) {
                Run x = three(0);
                Steps.write(x, writer, 1, 0, 1);
                due("t", x.seal(0), 8 + writer);
                Steps.upTo(2, x, c, 2, 0, 1);
                due("tag of " + c + " after " + (8 + writer), x.tag(c), 16 + c);
            }
        }
    }

    /** One server of five has the seal 9, of a write that is not finished. */
    private static Run withOneSeal(int sealed) {
        Run x = new Run(5, 1, 1);
        Steps.upTo(3, x, 1, 5, 0, 1, 2);
        x.deliver(1, sealed, x.requests(1, sealed) - 1);
        return x;
    }

    private void askHighest() {
        sentence("1 ASK ... t the highest seal in these Q replies");
        for (int sealed = 0; sealed < 3; sealed++) {
            Run x = withOneSeal(sealed);
            due("seal", x.seal(sealed), 9);
            Steps.upTo(2, x, 0, 6, 0, 1, 2);
            due("tag, the highest as reply " + sealed, x.tag(0), 16);
        }
        Run y = withOneSeal(0);
        Steps.upTo(3, y, 0, 6, 0, 1, 2);
        y.deliver(0, 1, 0);
        Steps.upTo(2, y, 3, 7, 0, 1, 2);
        due("tag after the seals 9, 16 and 0", y.tag(3), 27);
        Run z = withOneSeal(1);
        Steps.upTo(3, z, 0, 6, 0, 1, 2);
        z.deliver(0, 0, 0);
        Steps.upTo(2, z, 3, 7, 0, 1, 2);
        due("tag after the seals 16, 9 and 0", z.tag(3), 27);
    }

    private void askTheseReplies() {
        sentence("1 ASK ... in these Q replies");
        Run x = withOneSeal(4);
        Steps.upTo(2, x, 0, 6, 0, 1, 2);
        due("a seal elsewhere", x.tag(0), 8);
        Run y = withOneSeal(4);
        y.write(0, 6);
        y.deliver(0, 4, 0);
        Steps.rounds(y, 0, 0, 1, 2);
        due("a reply that is not heard", y.tag(0), 8);
        Run z = new Run(5, 1, 1);
        z.write(2, 6);
        for (int s = 0; s < 3; s++) {
            z.deliver(2, s, 0);
        }
        Steps.write(z, 1, 5, 0, 1, 2);
        for (int s = 0; s < 3; s++) {
            z.hear(2, s, 0);
        }
        due("a seal that came after the reply", z.tag(2), 10);
    }

    private void storeBears() {
        sentence("2 STORE. The request bears the client's tag and the server's fragment of the"
            + " block that is written");
        for (Sizes sizes : Sizes.ALL) {
            Run x = sizes.run(0);
            long block = 0xF0E1D2C3B4A59687L;
            Steps.writeUpToStore(x, 4, block, sizes.firstQuorum());
            for (int s = 0; s < sizes.n(); s++) {
                due("deliver", x.deliver(4, s, x.requests(4, s) - 1), 2);
                due("tag at " + s + sizes.at(), x.heldTag(s, 0), 12);
                for (int r = 0; r < sizes.l(); r++) {
                    due("byte " + r + " at " + s + sizes.at(), x.fragment(s, 12, r),
                        Bytes.fragmentByte(block, sizes.k(), s, r));
                }
            }
        }
    }

    /** Five writes that have all asked before any stored: the tags 8 to 12, blocks 101 to 105. */
    private static Run withFiveTags(int d) {
        Run x = three(d);
        for (int c = 0; c < 5; c++) {
            x.write(c, 101 + c);
        }
        for (int c = 0; c < 5; c++) {
            for (int s = 0; s < 2; s++) {
                x.deliver(c, s, 0);
                x.hear(c, s, 0);
            }
        }
        return x;
    }

    private void dueHeld(String at, Run x, int... tags) {
        due("held " + at, x.held(0), tags.length);
        for (int i = 0; i < tags.length; i++) {
            due("heldTag " + i + " " + at, x.heldTag(0, i), tags[i]);
            due("fragment " + i + " " + at, x.fragment(0, tags[i], 0), tags[i] == 0 ? 0 : tags[i] + 93);
        }
        due("heldTag of no more " + at, x.heldTag(0, tags.length), -1);
    }

    private void storeHoldsToo() {
        sentence("2 STORE ... The server then holds that too");
        Run x = withFiveTags(1);
        dueHeld("before", x, 0);
        x.deliver(2, 0, 0);
        dueHeld("then", x, 10, 0);
        due("another server", x.held(1), 1);
        due("no seal", x.seal(0), 0);
    }

    private void storeUpToD() {
        sentence("if it holds fragments of more than D + 1 tags then");
        int[][] held = {{8, 0}, {9, 8, 0}, {10, 9, 8, 0}};
        for (int d = 1; d <= 3; d++) {
            Run x = withFiveTags(d);
            for (int c = 0; c < d; c++) {
                x.deliver(c, 0, 0);
                dueHeld("with D " + d, x, held[c]);
            }
        }
    }

    private void storeDropsLowest() {
        sentence("it drops the one with the lowest tag");
        int[][] held = {{12}, {12, 11}, {12, 11, 10}, {12, 11, 10, 9}};
        for (int d = 0; d <= 3; d++) {
            Run x = withFiveTags(d);
            for (int c = 0; c < 5; c++) {
                x.deliver(c, 0, 0);
                due("held with D " + d, x.held(0), Math.min(d + 1, c + 2));
                due("highest with D " + d, x.heldTag(0, 0), 8 + c);
                int dropped = c - d - 1;
                due("dropped with D " + d, x.fragment(0, dropped < 0 ? 0 : 8 + dropped, 0),
                    dropped < 0 && c < d ? 0 : -1);
            }
            dueHeld("with D " + d, x, held[d]);
        }
    }

    private void storeDropsTheNew() {
        sentence("(which may be the new one)");
        for (int d = 0; d <= 3; d++) {
            Run x = withFiveTags(d);
            for (int c = 4; c > 3 - d; c--) {
                x.deliver(c, 0, 0);
            }
            int low = 4 - d;
            due("held with D " + d, x.held(0), d + 1);
            due("lowest with D " + d, x.heldTag(0, d), 8 + low);
            for (int c = low - 1; c >= 0; c--) {
                due("deliver", x.deliver(c, 0, 0), 2);
                due("held with D " + d, x.held(0), d + 1);
                due("lowest with D " + d, x.heldTag(0, d), 8 + low);
                due("the new one with D " + d, x.fragment(0, 8 + c, 0), -1);
                due("its reply with D " + d, x.replies(c, 0), 1);
                due("counts", x.hear(c, 0, 0), 1);
            }
        }
    }

    private void storeEveryOrder() {
        sentence("if it holds fragments of more than D + 1 tags then, it drops the one with the"
            + " lowest tag (which may be the new one)");
        List<int[]> orders = new ArrayList<>();
        addOrders(orders, new int[] {0, 1, 2, 3, 4}, 0);
        due("orders", orders.size(), 120);
        for (int d = 0; d <= 3; d++) {
            for (int[] order : orders) {
                storeInOrder(d, order);
            }
        }
    }

    private static void addOrders(List<int[]> orders, int[] order, int fixed) {
        if (fixed == order.length) {
            orders.add(order.clone());
        }
        for (int i = fixed; i < order.length; i++) {
            int[] next = order.clone();
            next[fixed] = order[i];
            next[i] = order[fixed];
            addOrders(orders, next, fixed + 1);
        }
    }

    private void storeInOrder(int d, int[] order) {
        Run x = withFiveTags(d);
        TreeSet<Integer> tags = new TreeSet<>(Collections.reverseOrder());
        tags.add(0);
        for (int c : order) {
            x.deliver(c, 0, 0);
            tags.add(8 + c);
            if (tags.size() > d + 1) {
                tags.pollLast();
            }
            dueHeld("with D " + d, x, tags.stream().mapToInt(tag -> tag).toArray());
        }
    }

    private void storeEnds() {
        sentence("2 STORE ... As soon as Q replies count, phase 3 begins");
        endsAtQuorum(2, 2);
    }

    private void sealRises() {
        sentence("3 SEAL. The request bears the client's tag; if it is higher than the server's"
            + " seal, it becomes the seal");
        Run x = three(0);
        for (int c = 0; c < 5; c++) {
            x.write(c, c);
        }
        for (int phase = 1; phase <= 2; phase++) {
            for (int c = 0; c < 5; c++) {
                Steps.rounds(x, c, 0, 1);
            }
        }
        due("before", x.seal(0), 0);
        int[][] deliveries = {{2, 10}, {1, 10}, {3, 11}, {0, 11}, {4, 12}};
        for (int[] row : deliveries) {
            due("deliver", x.deliver(row[0], 0, 0), 3);
            due("seal after " + (8 + row[0]), x.seal(0), row[1]);
        }
        due("held as before", x.heldTag(0, 0), 12);
        due("another server", x.seal(1), 0);
        Run y = three(0);
        Steps.upTo(3, y, 2, 5, 0, 1);
        y.deliver(2, 0, 0);
        Steps.upTo(5, y, 3, 0, 0, 1);
        y.deliver(3, 1, 0);
        due("by a read", y.seal(1), 10);
        due("deliver", y.deliver(2, 1, 0), 3);
        due("an equal tag", y.seal(1), 10);
    }

    private void sealEnds() {
        sentence("3 SEAL ... As soon as Q replies count, the write is finished");
        endsAtQuorum(3, 3);
    }

    private void lookReply() {
        sentence("4 LOOK ... Reply: the server's seal");
        for (int writer = 0; writer < 5; writer++) {
            Run x = three(0);
            Steps.write(x, writer, 5, 0, 1);
            Steps.upTo(5, x, 0, 0, 1, 2);
            due("tag", x.tag(0), 8 + writer);
        }
        Run y = three(0);
        y.read(0);
        y.deliver(0, 0, 0);
        due("looking changes no seal", y.seal(0), 0);
    }

    private void lookEnds() {
        sentence("4 LOOK ... As soon as Q replies count ... phase 5 begins");
        endsAtQuorum(4, 2);
    }

    private void lookHighest() {
        sentence("the client's TAG becomes the highest seal in these Q replies");
        for (int sealed = 0; sealed < 3; sealed++) {
            Run x = withOneSeal(sealed);
            x.read(0);
            for (int s = 0; s < 3; s++) {
                due("tag before", x.tag(0), 0);
                Steps.round(x, 0, s);
            }
            due("tag, the highest as reply " + sealed, x.tag(0), 9);
        }
        Run y = withOneSeal(4);
        Steps.upTo(5, y, 0, 0, 0, 1, 2);
        due("a seal elsewhere", y.tag(0), 0);
        Run z = withOneSeal(4);
        z.read(0);
        z.deliver(0, 4, 0);
        Steps.rounds(z, 0, 0, 1, 2);
        due("a reply that is not heard", z.tag(0), 0);
        Run w = withOneSeal(0);
        Steps.upTo(3, w, 0, 6, 0, 1, 2);
        w.deliver(0, 1, 0);
        Steps.upTo(5, w, 3, 0, 0, 1, 2);
        due("tag after the seals 9, 16 and 0", w.tag(3), 16);
        Run v = new Run(5, 1, 1);
        v.read(2);
        for (int s = 0; s < 3; s++) {
            v.deliver(2, s, 0);
        }
        Steps.write(v, 1, 5, 0, 1, 2);
        for (int s = 0; s < 3; s++) {
            v.hear(2, s, 0);
        }
        due("phase", v.phase(2), 5);
        due("a seal that came after the reply", v.tag(2), 0);
    }

    private void fetchSeals() {
        sentence("5 FETCH. The request bears the client's tag; if it is higher than the server's"
            + " seal, it becomes the seal");
        Run x = three(3);
        Steps.write(x, 1, 5, 0, 1);
        Steps.upTo(5, x, 0, 0, 0, 1);
        due("deliver", x.deliver(0, 2, 1), 5);
        due("higher", x.seal(2), 9);
        due("deliver", x.deliver(0, 1, 0), 5);
        due("equal", x.seal(1), 9);
        Steps.write(x, 2, 6, 0, 1);
        due("deliver", x.deliver(0, 0, 0), 5);
        due("lower", x.seal(0), 18);
        Run y = three(0);
        Steps.upTo(5, y, 0, 0, 0, 1);
        y.deliver(0, 0, 0);
        due("the tag 0", y.seal(0), 0);
        due("fetching stores nothing", y.held(0), 1);
    }

    private void fetchBears() {
        sentence("The reply bears the fragment that the server holds under that tag, if it"
            + " holds one");
        for (int d = 0; d <= 1; d++) {
            Run x = three(d);
            Steps.write(x, 1, 5, 0, 1);
            Steps.upTo(5, x, 0, 0, 0, 1);
            due("one that holds another tag alone", Steps.round(x, 0, 2), 1);
            due("one that holds it", Steps.round(x, 0, 1), 3);
            Run y = three(d);
            Steps.write(y, 1, 5, 0, 1);
            Steps.upTo(2, y, 2, 6, 0, 1);
            y.deliver(2, 0, 0);
            y.deliver(2, 1, 0);
            Steps.upTo(5, y, 0, 0, 0, 1);
            due("reply", Steps.round(y, 0, 0), 1);
            due("with D " + d + " it is held beside the other", Steps.round(y, 0, 1), d == 0 ? 1 : 3);
            due("result", y.result(0), d == 0 ? 0 : 5);
        }
    }

    private void fetchBearsAsDelivered() {
        sentence("The reply bears the fragment that the server holds under that tag, if it"
            + " holds one");
        Run x = three(0);
        Steps.write(x, 1, 5, 0, 1);
        Steps.upTo(2, x, 2, 6, 0, 1);
        Steps.upTo(5, x, 0, 0, 0, 1);
        x.deliver(0, 0, 0);
        x.deliver(2, 0, 0);
        x.deliver(2, 1, 0);
        due("dropped at 0 after the reply was sent", x.fragment(0, 9, 0), -1);
        due("hear", x.hear(0, 0, 0), 1);
        due("nothing from 1, but one is enough", Steps.round(x, 0, 1), 3);
        due("result", x.result(0), 5);
        Run y = three(0);
        Steps.write(y, 1, 5, 0, 1);
        Steps.upTo(2, y, 2, 6, 0, 1);
        y.deliver(2, 0, 0);
        Steps.upTo(5, y, 0, 0, 0, 1);
        y.deliver(0, 2, 1);
        y.deliver(1, 2, 1);
        due("held at 2 after the reply was sent", y.fragment(2, 9, 0), 5);
        due("hear", y.hear(0, 2, 0), 1);
        due("dropped at 0", Steps.round(y, 0, 0), 1);
        due("still in phase 5", y.phase(0), 5);
        due("held at 1", Steps.round(y, 0, 1), 3);
    }

    private void fetchEnds() {
        sentence("As soon as at least Q replies count and at least K of them bear a fragment,"
            + " the read is finished");
        endsAtQuorum(5, 3);
        for (Sizes sizes : Sizes.ALL) {
            for (int bearing = 0; bearing <= sizes.n(); bearing++) {
                fetchFrom(sizes, bearing, true);
                fetchFrom(sizes, bearing, false);
            }
        }
    }

    /** The servers that still hold the tag are heard last, or first. */
    private void fetchFrom(Sizes sizes, int bearing, boolean last) {
        long block = 0x1122334455667788L;
        Run x = sizes.run(0);
        Steps.writeEverywhere(x, 0, block, sizes);
        Steps.writeUpToStore(x, 1, 3, sizes.firstQuorum());
        int from = last ? 0 : bearing;
        for (int s = from; s < from + sizes.n() - bearing; s++) {
            Steps.deliverAll(x, 1, s);
        }
        Steps.upTo(5, x, 2, 0, sizes.firstQuorum());
        String at = sizes.at() + ", " + bearing + " bearing, " + (last ? "last" : "first");
        int answer = 1;
        for (int i = 1; i <= sizes.n() && answer == 1; i++) {
            int fragments = last ? Math.max(0, i - sizes.n() + bearing) : Math.min(i, bearing);
            answer = Steps.round(x, 2, i - 1);
            due("reply " + i + at, answer, i >= sizes.q() && fragments >= sizes.k() ? 3 : 1);
            due("heard" + at, x.heard(2), answer == 3 ? 0 : i);
        }
        due("finished" + at, x.finished(2), bearing >= sizes.k() ? 1 : 0);
        due("result" + at, x.result(2), bearing >= sizes.k() ? block : 0);
        due("phase" + at, x.phase(2), bearing >= sizes.k() ? 0 : 5);
    }

    private void fetchResult() {
        sentence("its RESULT is the block that was written under that tag");
        Run x = new Run(5, 2, 3);
        Steps.write(x, 0, 111, 0, 1, 2, 3);
        Steps.write(x, 1, 222, 0, 1, 2, 3);
        Steps.upTo(2, x, 2, 333, 0, 1, 2, 3);
        for (int s = 0; s < 4; s++) {
            x.deliver(2, s, 0);
        }
        due("three tags and the tag 0 are held", x.held(0), 4);
        due("read", Steps.read(x, 3, 0, 1, 2, 3), 3);
        due("the tag that is sealed", x.tag(3), 17);
        due("its block", x.result(3), 222);
    }

    private void fetchTagZero() {
        sentence("(the block 0 for the tag 0)");
        for (Sizes sizes : Sizes.ALL) {
            Run x = sizes.run(1);
            Steps.writeUpToStore(x, 0, -1, sizes.firstQuorum());
            for (int s = 0; s < sizes.n(); s++) {
                Steps.deliverAll(x, 0, s);
            }
            due("read" + sizes.at(), Steps.read(x, 1, sizes.firstQuorum()), 3);
            due("tag" + sizes.at(), x.tag(1), 0);
            due("result" + sizes.at(), x.result(1), 0);
        }
    }

    private void fetchGoesOn() {
        sentence("Until then the phase goes on, with however many replies");
        for (Sizes sizes : Sizes.ALL) {
            Run x = sizes.run(0);
            Steps.writeUpToStore(x, 0, 7, sizes.firstQuorum());
            for (int s = 0; s < sizes.n(); s++) {
                Steps.deliverAll(x, 0, s);
            }
            Steps.upTo(5, x, 1, 0, sizes.firstQuorum());
            for (int s = 0; s < sizes.n(); s++) {
                due("reply" + sizes.at(), Steps.round(x, 1, s), 1);
                due("heard" + sizes.at(), x.heard(1), s + 1);
                due("phase" + sizes.at(), x.phase(1), 5);
            }
            due("finished" + sizes.at(), x.finished(1), 0);
            due("again" + sizes.at(), x.again(1), 0);
        }
    }
}
