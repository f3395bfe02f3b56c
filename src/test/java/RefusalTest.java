import java.util.ArrayList;
import java.util.LinkedHashMap;
import java.util.List;
import java.util.Map;
import java.util.TreeSet;
import java.util.function.Consumer;
import java.util.function.ToLongFunction;

/** "Terms", its end: which of several refusals is the answer, and that a refused call does nothing. */
public final class RefusalTest extends Sentences {
    private static final int N = 3;
    private static final int L = 8;

    private static final String[] REFUSALS = {
        "write=-1", "write=-2", "write=-3", "write=-4", "read=-1", "read=-2", "read=-3", "read=-4",
        "again=-1", "again=-2", "again=-3", "again=-4", "deliver=-1", "deliver=-2", "hear=-1", "hear=-2",
        "crash=false", "stop=false", "phase=-1", "heard=-1", "tag=-1", "finished=-1", "held=-1",
        "heldTag=-1", "fragment=-1", "seal=-1", "requests=-1", "replies=-1",
    };

    private record Call(String name, ToLongFunction<Run> made) {
    }

    private final List<Call> calls = new ArrayList<>();
    private final Map<String, Consumer<Run>> states = new LinkedHashMap<>();
    private final TreeSet<String> refused = new TreeSet<>();

    public static void main(String[] args) {
        RefusalTest test = new RefusalTest();
        test.firstOfBeginning();
        test.firstOfAgain();
        test.firstOfLetters();
        test.changesNothing();
        test.checks.end();
    }

    /** Five letters of client 0 lie at server 2, and it has nothing under way. */
    private static void crowd(Run x) {
        Steps.write(x, 0, 0x55, 0, 1);
        Steps.read(x, 0, 0, 1);
    }

    /** Four letters lie there, then an operation begins: crowded and under way at once. */
    private static void crowdAtWork(Run x, int phase) {
        crowd(x);
        x.deliver(0, 2, 0);
        x.hear(0, 2, 0);
        Steps.upTo(phase, x, 0, 0x66, 0, 1);
    }

    /** Servers 0 and 1 have dropped the tag 0, and client 0 has heard so from both. */
    private static void fetchInVain(Run x) {
        Steps.upTo(2, x, 4, 0x77, 0, 1);
        x.deliver(4, 0, 0);
        x.deliver(4, 1, 0);
        Steps.upTo(5, x, 0, 0, 0, 1);
        Steps.rounds(x, 0, 0, 1);
    }

    private static void fetchInVainCrowded(Run x) {
        fetchInVain(x);
        for (int i = 0; i < 2; i++) {
            x.again(0);
            Steps.rounds(x, 0, 0, 1, 0, 1);
        }
    }

    private void dueBeginning(String at, Run x, int want) {
        due("write, " + at, x.write(0, 9), want);
        due("read, " + at, x.read(0), want);
    }

    private void firstOfBeginning() {
        sentence("Where a call lists several refusals, the first one that holds is the answer");
        Run crowded = new Run(N, 1, 0);
        crowd(crowded);
        dueBeginning("crowded", crowded, -4);
        crowded.stop(0);
        dueBeginning("crashed and crowded", crowded, -2);
        for (int phase = 1; phase <= 5; phase++) {
            Run x = new Run(N, 1, 0);
            Steps.upTo(phase, x, 0, 5, 0, 1);
            dueBeginning("under way", x, -3);
            x.stop(0);
            dueBeginning("crashed, once under way", x, -2);
            Run y = new Run(N, 1, 0);
            crowdAtWork(y, phase);
            due("letters", y.requests(0, 2) > 4 ? 1 : 0, 1);
            dueBeginning("under way and crowded", y, -3);
            y.stop(0);
            dueBeginning("crashed, once under way, and crowded", y, -2);
        }
        Run all = new Run(N, 1, 0);
        for (int c = 0; c < 5; c++) {
            all.stop(c);
        }
        due("write of no client, all crashed", all.write(5, 1), -1);
        due("read of no client, all crashed", all.read(-1), -1);
        due("again of no client, all crashed", all.again(5), -1);
    }

    private void firstOfAgain() {
        sentence("Where a call lists several refusals, the first one that holds is the answer");
        Run idle = new Run(N, 1, 0);
        crowd(idle);
        due("again, idle and crowded", idle.again(0), -3);
        idle.stop(0);
        due("again, crashed, idle and crowded", idle.again(0), -2);
        for (int phase = 1; phase <= 5; phase++) {
            Run x = new Run(N, 1, 0);
            crowdAtWork(x, phase);
            due("again, crowded in phase " + phase, x.again(0), -3);
            Steps.round(x, 0, 0);
            due("again, crowded in phase " + phase + ", one reply", x.again(0), -3);
            x.stop(0);
            due("again, crashed and crowded in phase " + phase, x.again(0), -2);
        }
        Run y = new Run(N, 1, 0);
        fetchInVainCrowded(y);
        due("again, crowded alone", y.again(0), -4);
        y.stop(0);
        due("again, crashed and crowded", y.again(0), -2);
        Run z = new Run(N, 1, 0);
        fetchInVain(z);
        z.stop(0);
        due("again, crashed alone", z.again(0), -2);
    }

    private void firstOfLetters() {
        sentence("Where a call lists several refusals, the first one that holds is the answer");
        Run x = new Run(N, 1, 0);
        x.crash(2);
        for (int j : new int[] {-1, 0, 7}) {
            for (int c = -1; c <= 5; c++) {
                for (int s = -1; s <= N; s++) {
                    int want = c < 0 || c > 4 || s < 0 || s == N ? -1 : -2;
                    due("deliver(" + c + ", " + s + ", " + j + ")", x.deliver(c, s, j), want);
                    due("hear(" + c + ", " + s + ", " + j + ")", x.hear(c, s, j), want);
                }
            }
        }
    }

    private void changesNothing() {
        sentence("A refused call (one that answers a negative number, or false) changes nothing");
        addStates();
        addClientCalls();
        addServerCalls();
        addLetterCalls();
        for (String state : states.keySet()) {
            changesNothingIn(state);
        }
        for (String refusal : REFUSALS) {
            due("seen: " + refusal, refused.contains(refusal), true);
        }
    }

    private void addStates() {
        states.put("new", x -> { });
        for (int phase = 1; phase <= 5; phase++) {
            int at = phase;
            states.put("phase " + phase, x -> {
                Steps.write(x, 1, 0x44, 1, 2);
                Steps.upTo(at, x, 0, 0x33, 0, 1);
                Steps.round(x, 0, 1);
                x.deliver(0, 2, 0);
            });
            states.put("crashed in phase " + phase, x -> {
                Steps.upTo(at, x, 0, 0x33, 0, 1);
                Steps.round(x, 0, 1);
                x.deliver(0, 2, 0);
                x.stop(0);
            });
            states.put("crowded in phase " + phase, x -> crowdAtWork(x, at));
        }
        states.put("crowded", x -> {
            crowd(x);
            x.deliver(0, 2, 1);
            x.deliver(0, 2, 2);
        });
        states.put("fetch in vain", RefusalTest::fetchInVain);
        states.put("fetch in vain, crowded", RefusalTest::fetchInVainCrowded);
        states.put("server crashed", x -> {
            Steps.upTo(2, x, 0, 0x33, 0, 1);
            x.deliver(0, 2, 0);
            x.crash(2);
        });
    }

    private void add(String name, ToLongFunction<Run> made) {
        calls.add(new Call(name, made));
    }

    private void addClientCalls() {
        for (int i = -1; i <= 5; i++) {
            int c = i;
            add("write", x -> x.write(c, -1));
            add("read", x -> x.read(c));
            add("again", x -> x.again(c));
            add("stop", x -> x.stop(c) ? 1 : -1);
            add("phase", x -> x.phase(c));
            add("heard", x -> x.heard(c));
            add("tag", x -> x.tag(c));
            add("finished", x -> x.finished(c));
        }
    }

    private void addServerCalls() {
        for (int i = -1; i <= N; i++) {
            int s = i;
            add("crash", x -> x.crash(s) ? 1 : -1);
            add("held", x -> x.held(s));
            add("seal", x -> x.seal(s));
            for (int j = -1; j <= 4; j++) {
                int place = j;
                add("heldTag", x -> x.heldTag(s, place));
                add("fragment", x -> x.fragment(s, 8, place * 2));
            }
        }
    }

    private void addLetterCalls() {
        for (int client = -1; client <= 5; client++) {
            for (int server = -1; server <= N; server++) {
                int c = client;
                int s = server;
                add("requests", x -> x.requests(c, s));
                add("replies", x -> x.replies(c, s));
                for (int place = -1; place <= 7; place++) {
                    int j = place;
                    add("deliver", x -> x.deliver(c, s, j));
                    add("hear", x -> x.hear(c, s, j));
                }
            }
        }
    }

    private Run in(String state) {
        Run x = new Run(N, 1, 0);
        states.get(state).accept(x);
        return x;
    }

    /** An object with the refused call and one without it show the same and go on the same. */
    private void changesNothingIn(String state) {
        String seen = Snapshot.of(in(state), N, L);
        String goingOn = goOn(in(state));
        for (Call call : calls) {
            Run x = in(state);
            long answer = call.made().applyAsLong(x);
            if (answer >= 0) {
                continue;
            }
            boolean isFalse = call.name().equals("crash") || call.name().equals("stop");
            refused.add(call.name() + "=" + (isFalse ? "false" : answer));
            due(state + ": " + call.name() + " left all as it was",
                Snapshot.of(x, N, L).equals(seen), true);
            Run y = in(state);
            call.made().applyAsLong(y);
            due(state + ": " + call.name() + " left what follows as it was",
                goOn(y).equals(goingOn), true);
        }
    }

    /** Letters of all clients are moved, then new operations begin, so that hidden things show. */
    private static String goOn(Run x) {
        StringBuilder answers = new StringBuilder();
        for (int i = 0; i < 3; i++) {
            move(x, answers);
        }
        for (int c = 0; c < 5; c++) {
            answers.append(' ').append(x.again(c)).append(' ').append(x.write(c, c));
        }
        move(x, answers);
        for (int c = 0; c < 5; c++) {
            answers.append(' ').append(x.tag(c)).append(' ').append(x.result(c));
            answers.append(' ').append(x.finished(c)).append(' ').append(x.phase(c));
        }
        return answers.toString();
    }

    private static void move(Run x, StringBuilder answers) {
        for (int c = 0; c < 5; c++) {
            for (int s = 0; s < N; s++) {
                int answer = 0;
                for (int i = 0; i < 8 && answer >= 0; i++) {
                    answer = x.deliver(c, s, 0);
                    answers.append(' ').append(answer);
                }
                answer = 0;
                for (int i = 0; i < 8 && answer >= 0; i++) {
                    answer = x.hear(c, s, 0);
                    answers.append(' ').append(answer);
                }
            }
        }
    }
}
