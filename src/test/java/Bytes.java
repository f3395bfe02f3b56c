/** The document's arithmetic of bytes by tables of logarithms: another way than the program's. */
final class Bytes {
    private static final int[] POWER_OF_X = new int[255];
    private static final int[] LOGARITHM = new int[256];

    static {
        int value = 1;
        for (int i = 0; i < 255; i++) {
            POWER_OF_X[i] = value;
            LOGARITHM[value] = i;
            value = value < 128 ? 2 * value : (2 * value - 256) ^ 29;
        }
    }

    private Bytes() {
    }

    static int product(int a, int b) {
        return a == 0 || b == 0 ? 0 : POWER_OF_X[(LOGARITHM[a] + LOGARITHM[b]) % 255];
    }

    static int power(int a, int i) {
        int value = 1;
        for (int n = 0; n < i; n++) {
            value = product(value, a);
        }
        return value;
    }

    static int byteOf(long block, int i) {
        return i < 8 ? (int) Math.floorMod(Long.divideUnsigned(block, 1L << (8 * i)), 256L) : 0;
    }

    static int length(int k) {
        return 8 / k + (8 % k == 0 ? 0 : 1);
    }

    /** Byte r of server s's fragment of the block, word by word as the document has it. */
    static int fragmentByte(long block, int k, int s, int r) {
        int sum = 0;
        for (int i = 0; i < k; i++) {
            sum ^= product(byteOf(block, r * k + i), power(s + 1, i));
        }
        return sum;
    }
}
