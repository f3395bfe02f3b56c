import java.util.Map;
import java.util.Random;
import java.util.TreeMap;

/** Long runs of calls drawn from fixed seeds, each answer compared with the model's. */
public final class ModelTest {
    private static final int RUNS = 4000;
    private static final int CALLS = 512;
    private static final int[] WILD = {
        -1, -2, 5, 6, 7, 8, 100, Integer.MIN_VALUE, Integer.MAX_VALUE
    };

    // Without these the draws would be too tame to show anything.
    private static final String[] MUST_BE_SEEN = {
        "write=0", "write=-1", "write=-2", "write=-3", "write=-4",
        "read=0", "read=-1", "read=-2", "read=-3", "read=-4",
        "again=0", "again=-1", "again=-2", "again=-3", "again=-4",
        "deliver=1", "deliver=2", "deliver=3", "deliver=4", "deliver=5", "deliver=-1", "deliver=-2",
        "hear=0", "hear=1", "hear=2", "hear=3", "hear=-1", "hear=-2",
        "hear short of fragments=1", "dropped the new one=0", "dropped the new one=1",
        "sealed in phase=3", "sealed in phase=5", "crash=0", "crash=1", "stop=0", "stop=1",
        "replies over the quorum=0", "replies over the quorum=1",
        "read a written block=1", "read a written block=2", "read a written block=3",
        "read a written block=4", "read a written block=5", "read a written block=6",
        "read a written block=7",
    };

    private final Checks checks = new Checks();
    private final Map<String, Integer> seen = new TreeMap<>();
    private Random random;
    private Model model;
    private SealedFragmentRegister program;
    private String run;
    private int busyClients;
    // A server whose letters lie long makes clients crowded.
    private int slowServer;

    public static void main(String[] args) {
        new ModelTest().all();
    }

    private void all() {
        for (int seed = 0; seed < RUNS && checks.allRight(); seed++) {
            oneRun(seed);
        }
        if (checks.allRight()) {
            for (String event : MUST_BE_SEEN) {
                checks.due("seen: " + event, seen.containsKey(event), true);
            }
        }
        checks.end();
    }

    private void oneRun(int seed) {
        random = new Random(seed);
        int n = random.nextInt(20) == 0 ? random.nextInt() : 2 + random.nextInt(7);
        int k = random.nextInt(20) == 0 ? random.nextInt() : random.nextInt(9);
        int d = random.nextInt(20) == 0 ? random.nextInt() : random.nextInt(6) - 1;
        run = "seed " + seed + " (" + n + ", " + k + ", " + d + ") ";
        model = new Model(n, k, d);
        program = new SealedFragmentRegister(n, k, d);
        busyClients = 1 + random.nextInt(5);
        slowServer = random.nextInt(2 * model.n);
        for (int i = 0; i < CALLS && checks.allRight(); i++) {
            oneCall(i);
        }
        model.seen.forEach((event, times) -> seen.merge(event, times, Integer::sum));
    }

    private void oneCall(int i) {
        int draw = random.nextInt(1000);
        if (draw < 80) {
            begin(i);
        } else if (draw < 110) {
            int c = client();
            checks.due(run + i + ": again(" + c + ")", program.again(c), model.again(c));
        } else if (draw < 470) {
            deliver(i);
        } else if (draw < 850) {
            hear(i);
        } else if (draw < 856) {
            int s = server();
            checks.due(run + i + ": crash(" + s + ")", program.crash(s), model.crash(s));
        } else if (draw < 859) {
            int c = client();
            checks.due(run + i + ": stop(" + c + ")", program.stop(c), model.stop(c));
        } else {
            look(i);
        }
    }

    private int client() {
        return random.nextInt(40) == 0 ? wild() : random.nextInt(busyClients);
    }

    private int server() {
        return random.nextInt(40) == 0 ? wild() : random.nextInt(model.n);
    }

    private int quickServer() {
        int s = random.nextInt(model.n);
        return s == slowServer && random.nextInt(20) != 0 ? (s + 1) % model.n : s;
    }

    private int wild() {
        return WILD[random.nextInt(WILD.length)];
    }

    private int place(int waiting) {
        int draw = random.nextInt(20);
        if (draw == 0) {
            return wild();
        }
        return draw < 10 || waiting < 1 ? waiting - 1 : random.nextInt(waiting);
    }

    private void begin(int i) {
        int c = client();
        if (random.nextBoolean()) {
            checks.due(run + i + ": read(" + c + ")", program.read(c), model.read(c));
        } else {
            long block = random.nextInt(8) == 0 ? random.nextInt(3) - 1 : random.nextLong();
            checks.due(run + i + ": write(" + c + ", " + block + ")",
                program.write(c, block), model.write(c, block));
        }
    }

    private void deliver(int i) {
        int c = client();
        int s = random.nextInt(40) == 0 ? wild() : quickServer();
        for (int tries = 0; tries < 12 && model.requests(c, s) == 0; tries++) {
            s = quickServer();
        }
        int j = place(model.requests(c, s));
        checks.due(run + i + ": deliver(" + c + ", " + s + ", " + j + ")",
            program.deliver(c, s, j), model.deliver(c, s, j));
    }

    private void hear(int i) {
        int c = client();
        int s = random.nextInt(40) == 0 ? wild() : quickServer();
        for (int tries = 0; tries < 12 && model.replies(c, s) == 0; tries++) {
            s = quickServer();
        }
        int j = place(model.replies(c, s));
        checks.due(run + i + ": hear(" + c + ", " + s + ", " + j + ")",
            program.hear(c, s, j), model.hear(c, s, j));
    }

    private void look(int i) {
        if (random.nextBoolean()) {
            lookAtClient(i, client(), server());
        } else {
            lookAtServer(i, server());
        }
    }

    private void lookAtClient(int i, int c, int s) {
        String at = run + i + ": of client " + c + ": ";
        switch (random.nextInt(7)) {
            case 0 -> checks.due(at + "phase", program.phase(c), model.phase(c));
            case 1 -> checks.due(at + "heard", program.heard(c), model.heard(c));
            case 2 -> checks.due(at + "tag", program.tag(c), model.tag(c));
            case 3 -> checks.due(at + "result", program.result(c), model.result(c));
            case 4 -> checks.due(at + "finished", program.finished(c), model.finished(c));
            case 5 -> checks.due(at + "requests at " + s, program.requests(c, s), model.requests(c, s));
            default -> checks.due(at + "replies of " + s, program.replies(c, s), model.replies(c, s));
        }
    }

    private void lookAtServer(int i, int s) {
        String at = run + i + ": of server " + s + ": ";
        int place = random.nextInt(20) == 0 ? wild() : random.nextInt(6) - 1;
        switch (random.nextInt(6)) {
            case 0 -> checks.due(at + "held", program.held(s), model.held(s));
            case 1 -> checks.due(at + "heldTag " + place,
                program.heldTag(s, place), model.heldTag(s, place));
            case 2 -> checks.due(at + "seal", program.seal(s), model.seal(s));
            case 3 -> checks.due(at + "quorum", program.quorum(), model.quorum());
            default -> {
                int tag = random.nextInt(6) == 0 ? random.nextInt(30) - 1 : model.heldTag(s, 0);
                int r = random.nextInt(20) == 0 ? wild() : random.nextInt(10) - 1;
                checks.due(at + "fragment " + tag + " byte " + r,
                    program.fragment(s, tag, r), model.fragment(s, tag, r));
            }
        }
    }
}
