/** Sums of rows of bytes with a key behind them. */
public final class KeySums {
    public static final int NONE = -1;

    private static final int TAPE_LIMIT = 2000;
    private static final int FEED_SIZE = 20;
    private static final int FILL_LIMIT = 4000;
    private static final int KEY_SIZE = 16;
    private static final int SUM_SIZE = 16;

    private final byte[] tape;
    private int tapeSize;
    private final byte[] keyBytes;
    private final Summer summer;
    private final int[] keptSum;
    private boolean hasSum;

    public KeySums() {
        tape = new byte[TAPE_LIMIT];
        tapeSize = 0;
        keyBytes = new byte[KEY_SIZE];
        summer = new Summer();
        keptSum = new int[SUM_SIZE / 4];
        hasSum = false;
    }

    public boolean feed(int a, int b, int c, int d, int e) {
        if (tapeSize > TAPE_LIMIT - FEED_SIZE) {
            return false;
        }
        writeNumber(tapeSize, a);
        writeNumber(tapeSize + 4, b);
        writeNumber(tapeSize + 8, c);
        writeNumber(tapeSize + 12, d);
        writeNumber(tapeSize + 16, e);
        tapeSize += FEED_SIZE;
        return true;
    }

    public boolean end(int n) {
        if (n < 0 || n > tapeSize) {
            return false;
        }
        tapeSize = n;
        return true;
    }

    public int add() {
        for (int i = 0; i < tapeSize; i++) {
            summer.take(tape[i]);
        }
        tapeSize = 0;
        return summer.count;
    }

    public int fill(int n, int seed) {
        if (n < 0 || n > FILL_LIMIT) {
            return NONE;
        }
        for (int i = 0; i < n; i++) {
            summer.take(seed + 3 * i);
        }
        return summer.count;
    }

    public int key() {
        int size = tapeSize;
        // The document says "changing nothing else": a tape too long for a key is used up all the same.
        tapeSize = 0;
        if (size > KEY_SIZE) {
            return NONE;
        }
        for (int i = 0; i < KEY_SIZE; i++) {
            keyBytes[i] = i < size ? tape[i] : 0;
        }
        return size;
    }

    public int sum(boolean keyed) {
        int count = summer.count;
        if (keyed) {
            for (int i = 0; i < KEY_SIZE; i++) {
                summer.take(keyBytes[i]);
            }
        }
        summer.close();
        keptSum[0] = summer.a;
        keptSum[1] = summer.b;
        keptSum[2] = summer.c;
        keptSum[3] = summer.d;
        hasSum = true;
        summer.restart();
        return count;
    }

    public int sumAt(int i) {
        if (!hasSum || i < 0 || i >= SUM_SIZE) {
            return NONE;
        }
        return (keptSum[i >> 2] >>> (8 * (i & 3))) & 255;
    }

    private void writeNumber(int at, int number) {
        tape[at] = (byte) (number >>> 24);
        tape[at + 1] = (byte) (number >>> 16);
        tape[at + 2] = (byte) (number >>> 8);
        tape[at + 3] = (byte) number;
    }

    /** Mixes bytes in as they come, so that two million of them need no room of their own. */
    private static final class Summer {
        private static final int BLOCK_MASK = 63;
        private static final int STEPS = 64;
        private static final int LENGTH_PLACE = 56;

        private static final int[] TURNS = {
            7, 12, 17, 22,
            5, 9, 14, 20,
            4, 11, 16, 23,
            6, 10, 15, 21
        };

        private static final int[] SINES = {
            0xd76aa478, 0xe8c7b756, 0x242070db, 0xc1bdceee,
            0xf57c0faf, 0x4787c62a, 0xa8304613, 0xfd469501,
            0x698098d8, 0x8b44f7af, 0xffff5bb1, 0x895cd7be,
            0x6b901122, 0xfd987193, 0xa679438e, 0x49b40821,
            0xf61e2562, 0xc040b340, 0x265e5a51, 0xe9b6c7aa,
            0xd62f105d, 0x02441453, 0xd8a1e681, 0xe7d3fbc8,
            0x21e1cde6, 0xc33707d6, 0xf4d50d87, 0x455a14ed,
            0xa9e3e905, 0xfcefa3f8, 0x676f02d9, 0x8d2a4c8a,
            0xfffa3942, 0x8771f681, 0x6d9d6122, 0xfde5380c,
            0xa4beea44, 0x4bdecfa9, 0xf6bb4b60, 0xbebfbc70,
            0x289b7ec6, 0xeaa127fa, 0xd4ef3085, 0x04881d05,
            0xd9d4d039, 0xe6db99e5, 0x1fa27cf8, 0xc4ac5665,
            0xf4292244, 0x432aff97, 0xab9423a7, 0xfc93a039,
            0x655b59c3, 0x8f0ccc92, 0xffeff47d, 0x85845dd1,
            0x6fa87e4f, 0xfe2ce6e0, 0xa3014314, 0x4e0811a1,
            0xf7537e82, 0xbd3af235, 0x2ad7d2bb, 0xeb86d391
        };

        private final int[] words;
        private int count;
        private int a;
        private int b;
        private int c;
        private int d;

        private Summer() {
            words = new int[16];
            restart();
        }

        private void restart() {
            count = 0;
            a = 0x67452301;
            b = 0xefcdab89;
            c = 0x98badcfe;
            d = 0x10325476;
        }

        /** Takes the lowest 8 bits of the number as the next byte. */
        private void take(int number) {
            int place = (count & BLOCK_MASK) >> 2;
            // Four bytes pushed in from the top put the first one lowest and the old word out.
            words[place] = (words[place] >>> 8) | (number << 24);
            count++;
            if ((count & BLOCK_MASK) == 0) {
                mixBlock();
            }
        }

        /** Puts the tail behind the bytes; a b c d are the sum then, until restart. */
        private void close() {
            long bits = (long) count * 8;
            take(128);
            int zeros = (LENGTH_PLACE - count) & BLOCK_MASK;
            for (int i = 0; i < zeros; i++) {
                take(0);
            }
            for (int i = 0; i < 8; i++) {
                take((int) (bits >>> (8 * i)));
            }
        }

        private void mixBlock() {
            int p = a;
            int q = b;
            int r = c;
            int s = d;
            for (int i = 0; i < STEPS; i++) {
                int round = i >> 4;
                int mixed = p + choose(round, q, r, s) + SINES[i] + words[wordOf(round, i)];
                int turned = turnLeft(mixed, TURNS[4 * round + (i & 3)]);
                p = s;
                s = r;
                r = q;
                q += turned;
            }
            a += p;
            b += q;
            c += r;
            d += s;
        }

        private static int choose(int round, int q, int r, int s) {
            switch (round) {
                case 0:
                    return (q & r) | (~q & s);
                case 1:
                    return (s & q) | (~s & r);
                case 2:
                    return q ^ r ^ s;
                default:
                    return r ^ (q | ~s);
            }
        }

        private static int wordOf(int round, int i) {
            switch (round) {
                case 0:
                    return i & 15;
                case 1:
                    return (5 * i + 1) & 15;
                case 2:
                    return (3 * i + 5) & 15;
                default:
                    return (7 * i) & 15;
            }
        }

        private static int turnLeft(int number, int by) {
            return (number << by) | (number >>> (32 - by));
        }
    }
}
