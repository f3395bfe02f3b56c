/** "Terms": SIZES, BYTES, A BLOCK and THE FRAGMENT, a test for each sentence. */
public final class TermsCodeTest extends Sentences {
    // Reckoned by hand: the powers 0 to 6 of the bytes 1 to 7.
    private static final int[][] POWERS = {
        {1, 1, 1, 1, 1, 1, 1},
        {1, 2, 4, 8, 16, 32, 64},
        {1, 3, 5, 15, 17, 51, 85},
        {1, 4, 16, 64, 29, 116, 205},
        {1, 5, 17, 85, 28, 108, 193},
        {1, 6, 20, 120, 13, 46, 228},
        {1, 7, 21, 107, 12, 36, 252},
    };

    public static void main(String[] args) {
        TermsCodeTest test = new TermsCodeTest();
        test.servers();
        test.clients();
        test.quorum();
        test.fragmentLength();
        test.bytes();
        test.sum();
        test.product();
        test.byteOrder();
        test.bytesFromEightOn();
        test.powerZero();
        test.otherPowers();
        test.everyFragment();
        test.anyFragments();
        test.checks.end();
    }

    private void servers() {
        sentence("There are N servers 0 .. N - 1");
        for (int n = 3; n <= 7; n++) {
            for (int s : new int[] {-1, n, n + 1, LOW, HIGH}) {
                noServer(n, s);
            }
            for (int s = 0; s < n; s++) {
                oneServer(n, s);
            }
        }
    }

    /** Client 1's letters would be met by whoever reckons the place of (0, N) without a look at N. */
    private static Run withLettersOfClient1(int n) {
        Run x = new Run(n, 1, 0);
        x.read(1);
        for (int s = 0; s < n; s++) {
            x.deliver(1, s, 0);
        }
        x.write(2, 5);
        return x;
    }

    private void noServer(int n, int s) {
        Run x = withLettersOfClient1(n);
        String at = " of server " + s + " of " + n;
        for (int c = 0; c < 5; c++) {
            due("deliver" + at, x.deliver(c, s, 0), -1);
            due("hear" + at, x.hear(c, s, 0), -1);
            due("requests" + at, x.requests(c, s), -1);
            due("replies" + at, x.replies(c, s), -1);
        }
        due("crash" + at, x.crash(s), false);
        due("held" + at, x.held(s), -1);
        due("heldTag" + at, x.heldTag(s, 0), -1);
        due("fragment" + at, x.fragment(s, 0, 0), -1);
        due("seal" + at, x.seal(s), -1);
    }

    private void oneServer(int n, int s) {
        Run x = withLettersOfClient1(n);
        String at = " of server " + s + " of " + n;
        due("held" + at, x.held(s), 1);
        due("heldTag" + at, x.heldTag(s, 0), 0);
        due("fragment" + at, x.fragment(s, 0, 0), 0);
        due("seal" + at, x.seal(s), 0);
        due("requests" + at, x.requests(2, s), 1);
        due("replies" + at, x.replies(1, s), 1);
        due("deliver" + at, x.deliver(2, s, 0), 1);
        due("hear" + at, x.hear(1, s, 0), 1);
        due("crash" + at, x.crash(s), true);
    }

    private void clients() {
        sentence("and five clients 0 .. 4");
        for (int c : new int[] {-1, 5, 6, LOW, HIGH}) {
            Run x = withLettersOfClient1(3);
            due("write of client " + c, x.write(c, 1), -1);
            due("read of client " + c, x.read(c), -1);
            due("again of client " + c, x.again(c), -1);
            for (int s = 0; s < 3; s++) {
                due("deliver of client " + c, x.deliver(c, s, 0), -1);
                due("hear of client " + c, x.hear(c, s, 0), -1);
                due("requests of client " + c, x.requests(c, s), -1);
                due("replies of client " + c, x.replies(c, s), -1);
            }
            due("stop of client " + c, x.stop(c), false);
            due("phase of client " + c, x.phase(c), -1);
            due("heard of client " + c, x.heard(c), -1);
            due("tag of client " + c, x.tag(c), -1);
            due("result of client " + c, x.result(c), 0);
            due("finished of client " + c, x.finished(c), -1);
        }
        for (int c = 0; c < 5; c++) {
            Run x = new Run(3, 1, 0);
            due("write of client " + c, Steps.write(x, c, 99, 0, 1), 3);
            due("read of client " + c, Steps.read(x, c, 0, 1), 3);
            due("result of client " + c, x.result(c), 99);
            due("stop of client " + c, x.stop(c), true);
        }
    }

    private void quorum() {
        sentence("The QUORUM is N - F, where F is (N - K) / 2 rounded down");
        for (Sizes sizes : Sizes.ALL) {
            Run x = sizes.run(0);
            due("quorum" + sizes.at(), x.quorum(), sizes.n() - sizes.f());
            for (int s = 0; s < sizes.n(); s++) {
                due("crash of " + s + sizes.at(), x.crash(s), s < sizes.f());
            }
        }
    }

    private void fragmentLength() {
        sentence("A FRAGMENT has L bytes, L being 8 / K rounded up");
        for (Sizes sizes : Sizes.ALL) {
            Run x = sizes.run(0);
            Steps.writeUpToStore(x, 0, -1, sizes.firstQuorum());
            x.deliver(0, 0, 0);
            due("byte -1" + sizes.at(), x.fragment(0, 8, -1), -1);
            for (int r = 0; r < sizes.l(); r++) {
                due("byte " + r + sizes.at(), x.fragment(0, 8, r) >= 0, true);
            }
            due("byte L" + sizes.at(), x.fragment(0, 8, sizes.l()), -1);
            due("byte L + 1" + sizes.at(), x.fragment(0, 8, sizes.l() + 1), -1);
        }
    }

    /** An object with K fragments a block at whose seven servers client 0 has stored the block. */
    private static Run stored(int k, long block) {
        Run x = new Run(7, k, 0);
        int q = 7 - (7 - k) / 2;
        Steps.writeUpToStore(x, 0, block, Steps.servers(0, q));
        for (int s = 0; s < 7; s++) {
            x.deliver(0, s, s < q ? 0 : 1);
        }
        return x;
    }

    private static long block(int... bytes) {
        long block = 0;
        for (int i = 0; i < bytes.length; i++) {
            block += (long) bytes[i] << (8 * i);
        }
        return block;
    }

    private void bytes() {
        sentence("BYTES are the numbers 0 .. 255");
        for (int low = 0; low < 256; low += 8) {
            Run x = stored(1, block(low, low + 1, low + 2, low + 3, low + 4, low + 5, low + 6, low + 7));
            for (int r = 0; r < 8; r++) {
                due("byte " + (low + r), x.fragment(3, 8, r), low + r);
            }
        }
    }

    private void sum() {
        sentence("The SUM of two bytes is their exclusive or");
        int[][] sums = {{0, 0, 0}, {1, 1, 0}, {1, 2, 3}, {255, 1, 254}, {255, 255, 0}, {128, 128, 0},
            {200, 100, 172}, {127, 128, 255}, {3, 6, 5}, {0, 255, 255}};
        for (int[] row : sums) {
            Run x = stored(2, block(row[0], row[1]));
            due(row[0] + " + " + row[1], x.fragment(0, 8, 0), row[2]);
        }
    }

    private void product() {
        sentence("The PRODUCT of two bytes is that of polynomials with coefficients modulo 2"
            + " (bit i of a byte is the coefficient of x^i),"
            + " reduced modulo x^8 + x^4 + x^3 + x^2 + 1");
        int[][] products = {{128, 2, 29}, {127, 2, 254}, {255, 2, 227}, {64, 4, 29}, {63, 4, 252},
            {128, 4, 58}, {128, 3, 157}, {255, 3, 28}, {255, 7, 199}, {85, 3, 255}, {0, 7, 0}};
        for (int[] row : products) {
            Run x = stored(2, block(0, row[0]));
            due(row[0] + " * " + row[1], x.fragment(row[1] - 1, 8, 0), row[2]);
        }
        for (int b = 0; b < 256; b += 4) {
            Run x = stored(2, block(0, b, 0, b + 1, 0, b + 2, 0, b + 3));
            for (int s = 0; s < 7; s++) {
                for (int r = 0; r < 4; r++) {
                    due((b + r) + " * " + (s + 1), x.fragment(s, 8, r), Bytes.product(b + r, s + 1));
                }
            }
        }
    }

    private void byteOrder() {
        sentence("Its byte i, for i = 0 .. 7, is what its bits 8i .. 8i + 7 are"
            + " (byte 0 is the lowest)");
        for (int bit = 0; bit < 64; bit++) {
            Run x = stored(1, 1L << bit);
            for (int r = 0; r < 8; r++) {
                due("bit " + bit + ", byte " + r, x.fragment(6, 8, r),
                    r == bit / 8 ? 1 << bit % 8 : 0);
            }
        }
    }

    private void bytesFromEightOn() {
        sentence("its bytes from 8 on are 0");
        int[][] lasts = {{3, 2}, {5, 1}, {6, 1}, {7, 1}};
        for (int[] row : lasts) {
            int k = row[0];
            int last = row[1];
            long low = (1L << 8 * k * last) - 1;
            Run x = stored(k, low);
            Run y = stored(k, ~low);
            Run z = stored(k, Long.MIN_VALUE);
            for (int s = 0; s < 7; s++) {
                String at = " with K " + k + " at " + s;
                due("low bytes alone" + at, x.fragment(s, 8, last), 0);
                due("high bytes alone" + at, y.fragment(s, 8, last),
                    Bytes.product(255, sumOfPowers(s, 8 - k * last)));
                due("the highest bit alone" + at, z.fragment(s, 8, last),
                    Bytes.product(128, POWERS[s][7 - k * last]));
            }
            for (long block : new long[] {low, ~low, Long.MIN_VALUE, -1}) {
                readBack(k, block);
            }
        }
    }

    private static int sumOfPowers(int s, int count) {
        int sum = 0;
        for (int i = 0; i < count; i++) {
            sum ^= POWERS[s][i];
        }
        return sum;
    }

    private void readBack(int k, long block) {
        Run x = new Run(7, k, 0);
        int[] quorum = Steps.servers(0, 7 - (7 - k) / 2);
        Steps.write(x, 0, block, quorum);
        due("read with K " + k, Steps.read(x, 1, quorum), 3);
        due("result with K " + k, x.result(1), block);
    }

    private void powerZero() {
        sentence("(the power 0 is 1)");
        for (int k = 1; k <= 7; k++) {
            long block = 0;
            for (int i = 0; i < 8; i += k) {
                block |= (0xF0L + i) << 8 * i;
            }
            Run x = stored(k, block);
            for (int s = 0; s < 7; s++) {
                for (int r = 0; r * k < 8; r++) {
                    due("K " + k + " at " + s + ", byte " + r, x.fragment(s, 8, r), 0xF0 + r * k);
                }
            }
        }
    }

    private void otherPowers() {
        sentence("the i-th power of the byte s + 1");
        for (int i = 0; i < 7; i++) {
            Run x = stored(7, 1L << 8 * i);
            for (int s = 0; s < 7; s++) {
                due("power " + i + " of " + (s + 1), x.fragment(s, 8, 0), POWERS[s][i]);
            }
        }
    }

    private void everyFragment() {
        sentence("byte r is the sum, over i = 0 .. K - 1, of the product of the block's byte"
            + " r * K + i and the i-th power of the byte s + 1");
        long[] blocks = {0, 1, -1, Long.MIN_VALUE, Long.MAX_VALUE, 0x0102030405060708L,
            0xF1E2D3C4B5A69788L};
        for (int k = 1; k <= 7; k++) {
            for (long block : blocks) {
                Run x = stored(k, block);
                for (int s = 0; s < 7; s++) {
                    for (int r = 0; r < Bytes.length(k); r++) {
                        due("K " + k + ", block " + block + ", server " + s + ", byte " + r,
                            x.fragment(s, 8, r), Bytes.fragmentByte(block, k, s, r));
                    }
                }
            }
        }
    }

    private void anyFragments() {
        sentence("So any K fragments of one block, of different servers, belong to no other"
            + " block");
        for (Sizes sizes : Sizes.ALL) {
            for (int set = 0; set < 1 << sizes.n(); set++) {
                if (Integer.bitCount(set) == sizes.k()) {
                    readFrom(sizes, set);
                }
            }
        }
    }

    /** The servers outside the set have dropped the tag, so that the set's K fragments decide. */
    private void readFrom(Sizes sizes, int set) {
        long block = 0x9E3779B97F4A7C15L * (set + sizes.n());
        Run x = sizes.run(0);
        Steps.writeEverywhere(x, 0, block, sizes);
        Steps.writeUpToStore(x, 1, ~block, sizes.firstQuorum());
        for (int s = 0; s < sizes.n(); s++) {
            if ((set >> s & 1) == 0) {
                Steps.deliverAll(x, 1, s);
            }
        }
        x.read(2);
        Steps.rounds(x, 2, sizes.firstQuorum());
        String at = sizes.at() + " from " + Integer.toBinaryString(set);
        int answer = 1;
        for (int s = sizes.n() - 1; s >= 0 && answer == 1; s--) {
            answer = Steps.round(x, 2, s);
        }
        due("read" + at, answer, 3);
        due("result" + at, x.result(2), block);
    }
}
