import java.util.ArrayList;
import java.util.Collections;
import java.util.HashMap;
import java.util.List;
import java.util.Map;
import java.util.TreeMap;

/**
 * The document once more, written for reading and not for the language rules. Servers keep whole
 * blocks and results are looked up by tag, so nothing of the program's coding is repeated here.
 */
final class Model {
    static final class Letter {
        int phase;
        Object era;
        int tag;
        long block;
        int seal;
        boolean bears;
    }

    static final class Server {
        final TreeMap<Integer, Long> blocks = new TreeMap<>(Collections.reverseOrder());
        final List<List<Letter>> requests = new ArrayList<>();
        final List<List<Letter>> replies = new ArrayList<>();
        int seal;
        boolean crashed;
    }

    static final class Client {
        boolean crashed;
        boolean busy;
        int phase;
        Object era = new Object();
        final List<Letter> counted = new ArrayList<>();
        int tag;
        long block;
        long result;
        int finished;
    }

    final int n;
    final int k;
    final int d;
    final int f;
    final int q;
    final List<Server> servers = new ArrayList<>();
    final List<Client> clients = new ArrayList<>();
    final Map<Integer, Long> written = new HashMap<>();
    final Map<String, Integer> seen = new TreeMap<>();

    Model(int wishN, int wishK, int wishD) {
        n = wishN < 3 ? 3 : wishN > 7 ? 7 : wishN;
        k = wishK < 1 ? 1 : wishK > n ? n : wishK;
        d = wishD < 0 ? 0 : wishD > 3 ? 3 : wishD;
        f = (n - k) / 2;
        q = n - f;
        written.put(0, 0L);
        for (int s = 0; s < n; s++) {
            Server server = new Server();
            server.blocks.put(0, 0L);
            for (int c = 0; c < 5; c++) {
                server.requests.add(new ArrayList<>());
                server.replies.add(new ArrayList<>());
            }
            servers.add(server);
        }
        for (int c = 0; c < 5; c++) {
            clients.add(new Client());
        }
    }

    private int saw(String event, int answer) {
        seen.merge(event + "=" + answer, 1, Integer::sum);
        return answer;
    }

    boolean noClient(int c) {
        return c < 0 || c > 4;
    }

    boolean noServer(int s) {
        return s < 0 || s > n - 1;
    }

    boolean crowded(int c) {
        return servers.stream().anyMatch(server -> !server.crashed
            && server.requests.get(c).size() + server.replies.get(c).size() > 4);
    }

    private void begin(int c, int phase) {
        Client client = clients.get(c);
        client.busy = true;
        client.phase = phase;
        client.era = new Object();
        client.counted.clear();
        for (Server server : servers) {
            if (server.crashed) {
                continue;
            }
            Letter letter = new Letter();
            letter.phase = phase;
            letter.era = client.era;
            letter.tag = client.tag;
            letter.block = client.block;
            server.requests.get(c).add(letter);
        }
    }

    private int mayBegin(int c) {
        if (noClient(c)) {
            return -1;
        }
        if (clients.get(c).crashed) {
            return -2;
        }
        if (clients.get(c).busy) {
            return -3;
        }
        return crowded(c) ? -4 : 0;
    }

    int write(int c, long block) {
        int answer = mayBegin(c);
        if (answer == 0) {
            clients.get(c).block = block;
            begin(c, 1);
        }
        return saw("write", answer);
    }

    int read(int c) {
        int answer = mayBegin(c);
        if (answer == 0) {
            begin(c, 4);
        }
        return saw("read", answer);
    }

    int again(int c) {
        if (noClient(c)) {
            return saw("again", -1);
        }
        Client client = clients.get(c);
        if (client.crashed) {
            return saw("again", -2);
        }
        if (!client.busy || client.phase != 5 || client.counted.size() < q) {
            return saw("again", -3);
        }
        if (crowded(c)) {
            return saw("again", -4);
        }
        begin(c, 4);
        return saw("again", 0);
    }

    int deliver(int c, int s, int j) {
        if (noClient(c) || noServer(s)) {
            return saw("deliver", -1);
        }
        Server server = servers.get(s);
        List<Letter> waiting = server.requests.get(c);
        if (j < 0 || j >= waiting.size()) {
            return saw("deliver", -2);
        }
        Letter letter = waiting.remove(j);
        if (letter.phase == 2) {
            server.blocks.put(letter.tag, letter.block);
            if (server.blocks.size() > d + 1) {
                int dropped = server.blocks.pollLastEntry().getKey();
                saw("dropped the new one", dropped == letter.tag ? 1 : 0);
            }
        }
        if (letter.phase == 3 || letter.phase == 5) {
            if (letter.tag > server.seal) {
                server.seal = letter.tag;
                saw("sealed in phase", letter.phase);
            }
        }
        letter.seal = server.seal;
        letter.bears = letter.phase == 5 && server.blocks.containsKey(letter.tag);
        server.replies.get(c).add(letter);
        return saw("deliver", letter.phase);
    }

    int hear(int c, int s, int j) {
        if (noClient(c) || noServer(s)) {
            return saw("hear", -1);
        }
        List<Letter> waiting = servers.get(s).replies.get(c);
        if (j < 0 || j >= waiting.size()) {
            return saw("hear", -2);
        }
        Letter letter = waiting.remove(j);
        Client client = clients.get(c);
        if (client.crashed || !client.busy || letter.era != client.era) {
            return saw("hear", 0);
        }
        client.counted.add(letter);
        if (client.counted.size() < q) {
            return saw("hear", 1);
        }
        int highest = client.counted.stream().mapToInt(reply -> reply.seal).max().getAsInt();
        switch (client.phase) {
            case 1:
                client.tag = 8 * (highest / 8 + 1) + c;
                written.put(client.tag, client.block);
                begin(c, 2);
                return saw("hear", 2);
            case 2:
                begin(c, 3);
                return saw("hear", 2);
            case 4:
                client.tag = highest;
                begin(c, 5);
                return saw("hear", 2);
            case 5:
                if (client.counted.stream().filter(reply -> reply.bears).count() < k) {
                    return saw("hear short of fragments", 1);
                }
                client.result = written.get(client.tag);
                saw("read a written block", client.tag > 0 ? k : 0);
                saw("replies over the quorum", client.counted.size() - q);
                break;
            default:
                break;
        }
        client.busy = false;
        client.finished++;
        return saw("hear", 3);
    }

    boolean crash(int s) {
        if (noServer(s) || servers.get(s).crashed
            || servers.stream().filter(server -> server.crashed).count() >= f) {
            return saw("crash", 0) == 1;
        }
        servers.get(s).crashed = true;
        servers.get(s).requests.forEach(List::clear);
        return saw("crash", 1) == 1;
    }

    boolean stop(int c) {
        if (noClient(c) || clients.get(c).crashed) {
            return saw("stop", 0) == 1;
        }
        clients.get(c).crashed = true;
        return saw("stop", 1) == 1;
    }

    int phase(int c) {
        if (noClient(c)) {
            return -1;
        }
        Client client = clients.get(c);
        return client.crashed ? 6 : client.busy ? client.phase : 0;
    }

    int heard(int c) {
        if (noClient(c)) {
            return -1;
        }
        Client client = clients.get(c);
        return client.crashed || !client.busy ? 0 : client.counted.size();
    }

    int tag(int c) {
        return noClient(c) ? -1 : clients.get(c).tag;
    }

    long result(int c) {
        return noClient(c) ? 0 : clients.get(c).result;
    }

    int finished(int c) {
        return noClient(c) ? -1 : clients.get(c).finished;
    }

    int held(int s) {
        return noServer(s) ? -1 : servers.get(s).blocks.size();
    }

    int heldTag(int s, int i) {
        if (noServer(s) || i < 0 || i >= held(s)) {
            return -1;
        }
        return new ArrayList<>(servers.get(s).blocks.keySet()).get(i);
    }

    int fragment(int s, int tag, int r) {
        if (noServer(s) || !servers.get(s).blocks.containsKey(tag)
            || r < 0 || r >= Bytes.length(k)) {
            return -1;
        }
        return Bytes.fragmentByte(servers.get(s).blocks.get(tag), k, s, r);
    }

    int seal(int s) {
        return noServer(s) ? -1 : servers.get(s).seal;
    }

    int requests(int c, int s) {
        return noClient(c) || noServer(s) ? -1 : servers.get(s).requests.get(c).size();
    }

    int replies(int c, int s) {
        return noClient(c) || noServer(s) ? -1 : servers.get(s).replies.get(c).size();
    }

    int quorum() {
        return q;
    }
}
