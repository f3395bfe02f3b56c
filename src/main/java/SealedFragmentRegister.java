/**
 * A register that holds one block of eight bytes, kept as coded fragments on several servers,
 * written and read by clients through letters. The document's promises say what each call does.
 */
public final class SealedFragmentRegister {
    private static final int CLIENTS = 5;
    private static final int FEWEST_SERVERS = 3;
    private static final int MOST_SERVERS = 7;
    private static final int MOST_OLD_TAGS = 3;
    private static final int BLOCK_BYTES = 8;
    private static final int TAGS_A_NUMBER = 8;
    private static final int MOST_LETTERS_UNCROWDED = 4;

    // Only a client that is not crowded begins an operation or looks again, and it sends a server
    // at most three letters before it must be free of the crowd anew.
    private static final int ROOM_IN_ROW = MOST_LETTERS_UNCROWDED + 3;

    private static final int IDLE = 0;
    private static final int ASK = 1;
    private static final int STORE = 2;
    private static final int SEAL = 3;
    private static final int LOOK = 4;
    private static final int FETCH = 5;
    private static final int CRASHED = 6;

    private static final int DONE = 0;
    private static final int NOT_THERE = -1;
    private static final int NO_SUCH_LETTER = -2;
    private static final int HAS_CRASHED = -2;
    private static final int NOT_NOW = -3;
    private static final int CROWDED = -4;

    private static final int NOT_COUNTED = 0;
    private static final int PHASE_GOES_ON = 1;
    private static final int NEXT_PHASE = 2;
    private static final int FINISHED = 3;

    private final int quorumSize;
    private final int mostCrashes;
    private final Code code;
    private final Client[] clients;
    private final Server[] servers;
    private final Row[] requestRows;
    private final Row[] replyRows;
    private int crashes;

    public SealedFragmentRegister(int n, int k, int d) {
        int serverCount = between(FEWEST_SERVERS, n, MOST_SERVERS);
        int fragmentsNeeded = between(1, k, serverCount);
        int oldTags = between(0, d, MOST_OLD_TAGS);
        mostCrashes = (serverCount - fragmentsNeeded) / 2;
        quorumSize = serverCount - mostCrashes;
        code = new Code(fragmentsNeeded);
        clients = new Client[CLIENTS];
        for (int c = 0; c < CLIENTS; c++) {
            clients[c] = new Client(c, fragmentsNeeded);
        }
        servers = new Server[serverCount];
        for (int s = 0; s < serverCount; s++) {
            servers[s] = new Server(oldTags + 1);
        }
        requestRows = emptyRows(CLIENTS * serverCount);
        replyRows = emptyRows(CLIENTS * serverCount);
    }

    public int write(int c, long block) {
        int refusal = refusalToBegin(c);
        if (refusal != DONE) {
            return refusal;
        }
        clients[c].block = block;
        beginPhase(clients[c], ASK);
        return DONE;
    }

    public int read(int c) {
        int refusal = refusalToBegin(c);
        if (refusal != DONE) {
            return refusal;
        }
        beginPhase(clients[c], LOOK);
        return DONE;
    }

    public int again(int c) {
        if (!isClient(c)) {
            return NOT_THERE;
        }
        Client client = clients[c];
        if (client.crashed) {
            return HAS_CRASHED;
        }
        if (client.phase != FETCH || client.heard < quorumSize) {
            return NOT_NOW;
        }
        if (isCrowded(c)) {
            return CROWDED;
        }
        beginPhase(client, LOOK);
        return DONE;
    }

    public int deliver(int c, int s, int j) {
        if (!isClient(c) || !isServer(s)) {
            return NOT_THERE;
        }
        Letter letter = requestRows[rowOf(c, s)].take(j);
        if (letter == null) {
            return NO_SUCH_LETTER;
        }
        servers[s].answer(letter);
        replyRows[rowOf(c, s)].append(letter);
        return letter.phase;
    }

    public int hear(int c, int s, int j) {
        if (!isClient(c) || !isServer(s)) {
            return NOT_THERE;
        }
        Letter letter = replyRows[rowOf(c, s)].take(j);
        if (letter == null) {
            return NO_SUCH_LETTER;
        }
        Client client = clients[c];
        if (!client.counts(letter)) {
            return NOT_COUNTED;
        }
        client.take(letter, s);
        return hasHeardEnough(client) ? endPhase(client) : PHASE_GOES_ON;
    }

    public boolean crash(int s) {
        if (!isServer(s) || servers[s].crashed || crashes >= mostCrashes) {
            return false;
        }
        servers[s].crashed = true;
        crashes++;
        for (int c = 0; c < CLIENTS; c++) {
            requestRows[rowOf(c, s)].lose();
        }
        return true;
    }

    public boolean stop(int c) {
        if (!isClient(c) || clients[c].crashed) {
            return false;
        }
        clients[c].crashed = true;
        return true;
    }

    public int phase(int c) {
        if (!isClient(c)) {
            return NOT_THERE;
        }
        return clients[c].crashed ? CRASHED : clients[c].phase;
    }

    public int heard(int c) {
        if (!isClient(c)) {
            return NOT_THERE;
        }
        return clients[c].isAtWork() ? clients[c].heard : 0;
    }

    public int tag(int c) {
        return isClient(c) ? clients[c].tag : NOT_THERE;
    }

    public long result(int c) {
        return isClient(c) ? clients[c].result : 0;
    }

    public int finished(int c) {
        return isClient(c) ? clients[c].finished : NOT_THERE;
    }

    public int held(int s) {
        return isServer(s) ? servers[s].count : NOT_THERE;
    }

    public int heldTag(int s, int i) {
        if (!isServer(s) || i < 0 || i >= servers[s].count) {
            return NOT_THERE;
        }
        return servers[s].tags[i];
    }

    public int fragment(int s, int tag, int r) {
        if (!isServer(s) || r < 0 || r >= code.length) {
            return NOT_THERE;
        }
        int place = servers[s].placeOf(tag);
        return place < 0 ? NOT_THERE : Code.byteAt(servers[s].fragments[place], r);
    }

    public int seal(int s) {
        return isServer(s) ? servers[s].seal : NOT_THERE;
    }

    public int requests(int c, int s) {
        return isClient(c) && isServer(s) ? requestRows[rowOf(c, s)].size : NOT_THERE;
    }

    public int replies(int c, int s) {
        return isClient(c) && isServer(s) ? replyRows[rowOf(c, s)].size : NOT_THERE;
    }

    public int quorum() {
        return quorumSize;
    }

    private static int between(int least, int wish, int most) {
        return Math.max(least, Math.min(wish, most));
    }

    private static Row[] emptyRows(int count) {
        Row[] rows = new Row[count];
        for (int i = 0; i < count; i++) {
            rows[i] = new Row();
        }
        return rows;
    }

    private boolean isClient(int c) {
        return c >= 0 && c < CLIENTS;
    }

    private boolean isServer(int s) {
        return s >= 0 && s < servers.length;
    }

    private int rowOf(int c, int s) {
        return c * servers.length + s;
    }

    private int refusalToBegin(int c) {
        if (!isClient(c)) {
            return NOT_THERE;
        }
        if (clients[c].crashed) {
            return HAS_CRASHED;
        }
        if (clients[c].isAtWork()) {
            return NOT_NOW;
        }
        return isCrowded(c) ? CROWDED : DONE;
    }

    private boolean isCrowded(int c) {
        for (int s = 0; s < servers.length; s++) {
            int letters = requestRows[rowOf(c, s)].size + replyRows[rowOf(c, s)].size;
            if (!servers[s].crashed && letters > MOST_LETTERS_UNCROWDED) {
                return true;
            }
        }
        return false;
    }

    private void beginPhase(Client client, int phase) {
        client.enter(phase);
        for (int s = 0; s < servers.length; s++) {
            if (!servers[s].crashed) {
                requestRows[rowOf(client.number, s)].append(requestTo(s, client));
            }
        }
    }

    private Letter requestTo(int s, Client client) {
        Letter letter = new Letter(client.phase, client.beginning, client.tag);
        if (client.phase == STORE) {
            letter.fragment = code.encode(client.block, s);
        }
        return letter;
    }

    private boolean hasHeardEnough(Client client) {
        return client.heard >= quorumSize && (client.phase != FETCH || client.hasAllFragments());
    }

    private int endPhase(Client client) {
        switch (client.phase) {
            case ASK:
                int number = client.highestSeal / TAGS_A_NUMBER + 1;
                client.tag = TAGS_A_NUMBER * number + client.number;
                beginPhase(client, STORE);
                return NEXT_PHASE;
            case STORE:
                beginPhase(client, SEAL);
                return NEXT_PHASE;
            case LOOK:
                client.tag = client.highestSeal;
                beginPhase(client, FETCH);
                return NEXT_PHASE;
            case FETCH:
                client.result = code.decode(client.sources, client.fragments);
                client.finish();
                return FINISHED;
            default:
                client.finish();
                return FINISHED;
        }
    }

    /** One sheet goes both ways: the server writes its reply on the request that it answers. */
    private static final class Letter {
        final int phase;
        final int beginning;
        final int tag;
        long fragment;
        int seal;
        boolean bearsFragment;

        Letter(int phase, int beginning, int tag) {
            this.phase = phase;
            this.beginning = beginning;
            this.tag = tag;
        }
    }

    /** The letters that wait between one client and one server in one direction, oldest first. */
    private static final class Row {
        final Letter[] letters = new Letter[ROOM_IN_ROW];
        int size;

        void append(Letter letter) {
            if (size < letters.length) {
                letters[size] = letter;
                size++;
            }
        }

        Letter take(int place) {
            if (place < 0 || place >= size) {
                return null;
            }
            Letter taken = letters[place];
            size--;
            for (int i = place; i < size; i++) {
                letters[i] = letters[i + 1];
            }
            letters[size] = null;
            return taken;
        }

        void lose() {
            for (int i = 0; i < letters.length; i++) {
                letters[i] = null;
            }
            size = 0;
        }
    }

    private static final class Client {
        final int number;
        final int[] sources;
        final long[] fragments;
        int fragmentCount;
        boolean crashed;
        int phase = IDLE;
        // Tells one beginning of a phase from another one of the same phase.
        int beginning;
        int heard;
        int highestSeal;
        int tag;
        long block;
        long result;
        int finished;

        Client(int number, int fragmentsNeeded) {
            this.number = number;
            sources = new int[fragmentsNeeded];
            fragments = new long[fragmentsNeeded];
        }

        boolean isAtWork() {
            return !crashed && phase != IDLE;
        }

        void enter(int nextPhase) {
            phase = nextPhase;
            beginning++;
            heard = 0;
            highestSeal = 0;
            fragmentCount = 0;
        }

        boolean counts(Letter letter) {
            return isAtWork() && letter.beginning == beginning;
        }

        void take(Letter letter, int s) {
            heard++;
            highestSeal = Math.max(highestSeal, letter.seal);
            if (letter.bearsFragment && fragmentCount < fragments.length) {
                sources[fragmentCount] = s;
                fragments[fragmentCount] = letter.fragment;
                fragmentCount++;
            }
        }

        boolean hasAllFragments() {
            return fragmentCount == fragments.length;
        }

        void finish() {
            phase = IDLE;
            finished++;
        }
    }

    private static final class Server {
        final int mostTags;
        // Highest tag first, with one place more than stays: there a dropped fragment ends.
        final int[] tags;
        final long[] fragments;
        // The block 0 has the fragment 0 under the tag 0, which is what new rows hold.
        int count = 1;
        int seal;
        boolean crashed;

        Server(int mostTags) {
            this.mostTags = mostTags;
            tags = new int[mostTags + 1];
            fragments = new long[mostTags + 1];
        }

        void answer(Letter letter) {
            switch (letter.phase) {
                case STORE:
                    store(letter.tag, letter.fragment);
                    break;
                case SEAL:
                    raiseSeal(letter.tag);
                    break;
                case FETCH:
                    raiseSeal(letter.tag);
                    enclose(letter);
                    break;
                default:
                    letter.seal = seal;
                    break;
            }
        }

        void store(int tag, long fragment) {
            int place = count;
            for (; place > 0 && tags[place - 1] < tag; place--) {
                tags[place] = tags[place - 1];
                fragments[place] = fragments[place - 1];
            }
            tags[place] = tag;
            fragments[place] = fragment;
            count = Math.min(count + 1, mostTags);
        }

        void raiseSeal(int tag) {
            seal = Math.max(seal, tag);
        }

        void enclose(Letter letter) {
            int place = placeOf(letter.tag);
            if (place >= 0) {
                letter.bearsFragment = true;
                letter.fragment = fragments[place];
            }
        }

        int placeOf(int tag) {
            for (int i = 0; i < count; i++) {
                if (tags[i] == tag) {
                    return i;
                }
            }
            return -1;
        }
    }

    /** Makes fragments of blocks and blocks of fragments; a fragment's byte r is byte r of a long. */
    private static final class Code {
        private static final int MODULUS = 0x11D;
        private static final int BITS = 8;
        private static final int BYTE_MASK = 0xFF;
        private static final int OVERFLOW = 0x100;

        final int needed;
        final int length;
        final int[] column;

        Code(int needed) {
            this.needed = needed;
            length = (BLOCK_BYTES + needed - 1) / needed;
            column = new int[needed];
        }

        long encode(long block, int s) {
            long fragment = 0;
            for (int r = 0; r < length; r++) {
                int value = 0;
                for (int i = needed - 1; i >= 0; i--) {
                    value = times(value, pointOf(s)) ^ byteAt(block, r * needed + i);
                }
                fragment |= placed(value, r);
            }
            return fragment;
        }

        long decode(int[] sources, long[] fragments) {
            long block = 0;
            for (int r = 0; r < length; r++) {
                for (int i = 0; i < needed; i++) {
                    column[i] = byteAt(fragments[i], r);
                }
                interpolate(sources);
                for (int i = 0; i < needed; i++) {
                    block |= placed(column[i], r * needed + i);
                }
            }
            return block;
        }

        // Newton's divided differences, then the powers: it needs no matrix, only the column.
        void interpolate(int[] sources) {
            for (int step = 1; step < needed; step++) {
                for (int i = needed - 1; i >= step; i--) {
                    int gap = pointOf(sources[i]) ^ pointOf(sources[i - step]);
                    column[i] = times(column[i] ^ column[i - 1], inverse(gap));
                }
            }
            for (int step = needed - 2; step >= 0; step--) {
                for (int i = step; i < needed - 1; i++) {
                    column[i] ^= times(pointOf(sources[step]), column[i + 1]);
                }
            }
        }

        static int pointOf(int s) {
            return s + 1;
        }

        static int byteAt(long bytes, int i) {
            return i >= 0 && i < BLOCK_BYTES ? (int) (bytes >>> (BITS * i)) & BYTE_MASK : 0;
        }

        static long placed(int value, int i) {
            return i >= 0 && i < BLOCK_BYTES ? (long) value << (BITS * i) : 0;
        }

        static int times(int a, int b) {
            int sum = 0;
            int shifted = a;
            for (int bit = 0; bit < BITS; bit++) {
                if ((b >> bit & 1) != 0) {
                    sum ^= shifted;
                }
                shifted <<= 1;
                if ((shifted & OVERFLOW) != 0) {
                    shifted ^= MODULUS;
                }
            }
            return sum;
        }

        // The power 255 of a byte other than 0 is 1, so its power 254 = 2 + 4 + .. + 128 undoes it.
        static int inverse(int a) {
            int power = a;
            int result = 1;
            for (int bit = 1; bit < BITS; bit++) {
                power = times(power, power);
                result = times(result, power);
            }
            return result;
        }
    }
}
