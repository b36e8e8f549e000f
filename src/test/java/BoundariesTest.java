import java.util.Arrays;

/** A test of its own for each boundary case that a sentence of the document names. */
public final class BoundariesTest {
    private static final byte[] NOTHING = new byte[0];
    private static final int[] FAR = {Integer.MIN_VALUE, Integer.MIN_VALUE + 1, -4000, -2, -1};

    public static void main(String[] args) {
        calls();
        terms();
        newObject();
        feed();
        end();
        add();
        fill();
        key();
        sum();
        sumAt();
        Check.finish();
    }

    // ---- What it is: 512 calls

    private static void calls() {
        Check.about("512 calls, the last one sum");
        callsOfFillThenSum();
        Check.about("512 calls, the last one sumAt");
        callsOfFillThenSumAt();
        Check.about("512 calls, most of them feed");
        callsOfFeed();
        Check.about("512 calls, most of them sum");
        callsOfSum();
        Check.about("512 calls, most of them key");
        callsOfKey();
        Check.about("512 calls, all refused but the last two");
        callsRefused();
    }

    private static void callsOfFillThenSum() {
        KeySums x = new KeySums();
        for (int i = 1; i <= 511; i++) {
            Check.due("fill " + i, x.fill(4000, i), 4000 * i);
        }
        Check.due("sum(true)", x.sum(true), 4000 * 511);
    }

    private static void callsOfFillThenSumAt() {
        KeySums x = new KeySums();
        byte[] all = new byte[4000 * 495];
        for (int i = 0; i < 495; i++) {
            Check.due("fill " + i, x.fill(4000, 5 * i), 4000 * (i + 1));
            System.arraycopy(Check.filled(4000, 5 * i), 0, all, 4000 * i, 4000);
        }
        Check.due("sum(true)", x.sum(true), all.length);
        Check.dueSum("sum(true)", x, Check.joined(all, new byte[16]));
    }

    private static void callsOfFeed() {
        KeySums x = new KeySums();
        byte[] all = NOTHING;
        int[] sizes = {2000, 2000, 2000, 2000, 1800};
        for (int size : sizes) {
            byte[] part = Check.filled(size, size + all.length);
            Check.feeds(x, part);
            all = Check.joined(all, part);
            Check.due("add()", x.add(), all.length);
        }
        Check.due("sum(false)", x.sum(false), all.length);
        Check.dueSum("sum(false)", x, all);
    }

    private static void callsOfSum() {
        KeySums x = new KeySums();
        for (int i = 0; i < 495; i++) {
            Check.due("sum " + i, x.sum(i % 2 == 0), 0);
        }
        Check.due("sum(true)", x.sum(true), 0);
        Check.dueSum("sum(true)", x, new byte[16]);
    }

    private static void callsOfKey() {
        KeySums x = new KeySums();
        byte[] key = NOTHING;
        for (int i = 0; i < 165; i++) {
            key = Check.filled(i % 17, i);
            Check.tape(x, 0, key);
            Check.due("key() " + i, x.key(), key.length);
        }
        Check.due("sum(true)", x.sum(true), 0);
        Check.dueSum("sum(true)", x, Arrays.copyOf(key, 16));
    }

    private static void callsRefused() {
        KeySums x = new KeySums();
        for (int i = 0; i < 170; i++) {
            Check.due("end(1)", x.end(1), false);
            Check.due("fill(4001, 0)", x.fill(4001, 0), -1);
            Check.due("sumAt(0)", x.sumAt(0), -1);
        }
        Check.due("fill(1, 0)", x.fill(1, 0), 1);
        Check.due("sum(false)", x.sum(false), 1);
    }

    // ---- Terms

    private static void terms() {
        Check.about("the SUM of no bytes");
        sumOfFill(0);
        Check.about("0s up to 8 short of a multiple of 64: the last length that needs no block more");
        sumOfFill(55);
        sumOfFill(119);
        Check.about("0s up to 8 short of a multiple of 64: the first length that needs a block more");
        sumOfFill(56);
        sumOfFill(120);
        Check.about("byte 128 behind, as the last of its block");
        sumOfFill(63);
        sumOfFill(127);
        Check.about("byte 128 behind, as the first of its block");
        sumOfFill(64);
        sumOfFill(128);
        Check.about("the number of bits in one byte, then in two");
        sumOfFill(31);
        sumOfFill(32);
        Check.about("the number of bits in two bytes, then in three");
        sumOfLong(8191);
        sumOfLong(8192);
        Check.about("the same edges with the key's sixteen behind");
        for (int n : new int[] {0, 15, 16, 39, 40, 47, 48, 49, 103, 104, 111, 112}) {
            keyedSumOfFill(n);
        }
        Check.about("a KEY has 0s behind it to sixteen");
        for (int size = 0; size <= 16; size++) {
            keyOf(size);
        }
    }

    private static void sumOfFill(int n) {
        KeySums x = new KeySums();
        Check.due("fill(" + n + ", 77)", x.fill(n, 77), n);
        Check.due("sum(false)", x.sum(false), n);
        Check.dueSum("fill(" + n + ", 77)", x, Check.filled(n, 77));
    }

    private static void sumOfLong(int n) {
        KeySums x = new KeySums();
        x.fill(4000, 1);
        x.fill(4000, 2);
        Check.due("fill", x.fill(n - 8000, 3), n);
        Check.due("sum(false)", x.sum(false), n);
        Check.dueSum(n + " bytes", x, Check.joined(Check.filled(4000, 1), Check.filled(4000, 2),
                Check.filled(n - 8000, 3)));
    }

    private static void keyedSumOfFill(int n) {
        KeySums x = new KeySums();
        byte[] key = Check.filled(16, 99);
        Check.tape(x, 0, key);
        Check.due("key()", x.key(), 16);
        Check.due("fill(" + n + ", 77)", x.fill(n, 77), n);
        Check.due("sum(true)", x.sum(true), n);
        Check.dueSum("fill(" + n + ", 77)", x, Check.joined(Check.filled(n, 77), key));
    }

    /** The tape has bytes other than 0 behind the key, and the key before it was a full one. */
    private static void keyOf(int size) {
        KeySums x = new KeySums();
        Check.tape(x, 0, Check.filled(16, 130));
        Check.due("key()", x.key(), 16);
        Check.due("feed", x.feed(-1, -1, -1, -1, -1), true);
        Check.due("end(" + size + ")", x.end(size), true);
        Check.due("key()", x.key(), size);
        Check.due("sum(true)", x.sum(true), 0);
        byte[] want = new byte[16];
        Arrays.fill(want, 0, size, (byte) -1);
        Check.dueSum("a key of " + size, x, want);
    }

    // ---- Promise 1

    private static void newObject() {
        Check.about("Promise 1, no bytes");
        Check.due("add()", new KeySums().add(), 0);
        Check.due("fill(0, 0)", new KeySums().fill(0, 0), 0);
        KeySums x = new KeySums();
        Check.due("sum(false)", x.sum(false), 0);
        Check.dueSum("sum(false)", x, NOTHING);

        Check.about("Promise 1, a key of 0s");
        x = new KeySums();
        Check.due("sum(true)", x.sum(true), 0);
        Check.dueSum("sum(true)", x, new byte[16]);

        Check.about("Promise 1, no sum");
        x = new KeySums();
        for (int i = 0; i < 16; i++) {
            Check.due("sumAt(" + i + ")", x.sumAt(i), -1);
        }

        Check.about("Promise 1, the tape is empty");
        Check.due("end(1)", new KeySums().end(1), false);
        Check.due("end(0)", new KeySums().end(0), true);
        Check.due("key()", new KeySums().key(), 0);
        x = new KeySums();
        Check.feeds(x, Check.filled(2000, 4));
        Check.due("end(2000)", x.end(2000), true);
    }

    // ---- Promise 2

    private static void feed() {
        Check.about("Promise 2, of each number the highest first");
        for (int place = 0; place < 20; place++) {
            feedOneByte(place);
        }
        Check.about("Promise 2, 2000 bytes are not more than 2000");
        feedTo(1980, true);
        Check.about("Promise 2, 2001 bytes are more than 2000");
        feedTo(1981, false);
        Check.about("Promise 2, false on a full tape");
        feedTo(2000, false);
        Check.about("Promise 2, false time and again, changing nothing");
        Known known = new Known(2000);
        for (int i = 0; i < 5; i++) {
            Check.due("feed", known.x.feed(i, -1, -1, -1, i), false);
        }
        known.dueAll();
        Check.about("Promise 2, room again behind a refused feed");
        roomByEnd();
        roomByAdd();
        roomByKey();
    }

    /** One byte that is not 0, so that its place alone makes the sum. */
    private static void feedOneByte(int place) {
        int[] n = new int[5];
        n[place / 4] = 0xf1 << (24 - place % 4 * 8);
        byte[] want = new byte[20];
        want[place] = (byte) 0xf1;
        KeySums x = new KeySums();
        Check.due("feed", x.feed(n[0], n[1], n[2], n[3], n[4]), true);
        Check.due("add()", x.add(), 20);
        Check.due("sum(false)", x.sum(false), 20);
        Check.dueSum("a byte at " + place, x, want);
    }

    private static void feedTo(int before, boolean fits) {
        Known known = new Known(before);
        Check.due("feed behind " + before, known.x.feed(-1, -2, -3, -4, -5), fits);
        if (fits) {
            byte[] more = new byte[20];
            Arrays.fill(more, (byte) -1);
            for (int i = 0; i < 5; i++) {
                more[4 * i + 3] = (byte) (-1 - i);
            }
            known.tape = Check.joined(known.tape, more);
        }
        known.dueAll();
    }

    private static void roomByEnd() {
        Known known = new Known(2000);
        Check.due("feed", known.x.feed(1, 1, 1, 1, 1), false);
        Check.due("end(1981)", known.x.end(1981), true);
        Check.due("feed behind 1981", known.x.feed(1, 1, 1, 1, 1), false);
        Check.due("end(1980)", known.x.end(1980), true);
        Check.due("feed behind 1980", known.x.feed(0, 0, 0, 0, 0), true);
        known.tape = Check.joined(Arrays.copyOf(known.tape, 1980), new byte[20]);
        known.dueAll();
    }

    private static void roomByAdd() {
        Known known = new Known(2000);
        Check.due("feed", known.x.feed(1, 1, 1, 1, 1), false);
        Check.due("add()", known.x.add(), 2075);
        known.bytes = Check.joined(known.bytes, known.tape);
        known.tape = Check.filled(2000, 17);
        Check.feeds(known.x, known.tape);
        Check.due("feed", known.x.feed(1, 1, 1, 1, 1), false);
        known.dueAll();
    }

    private static void roomByKey() {
        Known known = new Known(2000);
        Check.due("key()", known.x.key(), -1);
        known.tape = Check.filled(2000, 18);
        Check.feeds(known.x, known.tape);
        Check.due("feed", known.x.feed(1, 1, 1, 1, 1), false);
        known.dueAll();
    }

    // ---- Promise 3

    private static void end() {
        Check.about("Promise 3, n as many as the tape has");
        endAt(0, 0, true);
        endAt(1, 1, true);
        endAt(20, 20, true);
        endAt(2000, 2000, true);
        Check.about("Promise 3, n one less than the tape has");
        endAt(1, 0, true);
        endAt(20, 19, true);
        endAt(2000, 1999, true);
        Check.about("Promise 3, n is 0");
        endAt(20, 0, true);
        endAt(2000, 0, true);
        Check.about("Promise 3, false, changing nothing, when it has not so many");
        endAt(0, 1, false);
        endAt(1, 2, false);
        endAt(20, 21, false);
        endAt(2000, 2001, false);
        endAt(20, Integer.MAX_VALUE, false);
        endAt(2000, Integer.MAX_VALUE, false);
        Check.about("Promise 3, false, changing nothing, when n is below 0");
        for (int n : FAR) {
            endAt(0, n, false);
            endAt(20, n, false);
            endAt(2000, n, false);
        }
        Check.about("Promise 3, what an end cut off does not come back");
        cutStaysCut();
        Check.about("Promise 3, feed goes behind the bytes that count");
        feedBehindEnd();
    }

    private static void endAt(int size, int n, boolean has) {
        Known known = new Known(size);
        Check.due("end(" + n + ") of " + size, known.x.end(n), has);
        if (has) {
            known.tape = Arrays.copyOf(known.tape, n);
        }
        known.dueAll();
    }

    private static void cutStaysCut() {
        Known known = new Known(40);
        Check.due("end(7)", known.x.end(7), true);
        Check.due("end(8)", known.x.end(8), false);
        Check.due("end(40)", known.x.end(40), false);
        known.tape = Arrays.copyOf(known.tape, 7);
        known.dueAll();
    }

    private static void feedBehindEnd() {
        Known known = new Known(40);
        Check.due("end(7)", known.x.end(7), true);
        Check.due("feed", known.x.feed(0, 0, 0, 0, 0), true);
        known.tape = Check.joined(Arrays.copyOf(known.tape, 7), new byte[20]);
        known.dueAll();
    }

    // ---- Promise 4

    private static void add() {
        Check.about("Promise 4, an empty tape");
        addOf(0);
        Check.about("Promise 4, one byte");
        addOf(1);
        Check.about("Promise 4, a full tape");
        addOf(2000);
        Check.about("Promise 4, on no bytes");
        KeySums x = new KeySums();
        Check.due("feed", x.feed(1, 2, 3, 4, 5), true);
        Check.due("add()", x.add(), 20);
        Check.about("Promise 4, the tape is empty then");
        Check.due("end(1)", x.end(1), false);
        Check.due("add()", x.add(), 20);
        Check.due("key()", x.key(), 0);
        Check.about("Promise 4, behind the bytes and not before them");
        Known known = new Known(3);
        Check.due("add()", known.x.add(), 78);
        Check.due("fill(4, 250)", known.x.fill(4, 250), 82);
        known.bytes = Check.joined(known.bytes, known.tape, Check.filled(4, 250));
        known.tape = NOTHING;
        known.dueAll();
    }

    private static void addOf(int size) {
        Known known = new Known(size);
        Check.due("add() of " + size, known.x.add(), 75 + size);
        known.bytes = Check.joined(known.bytes, known.tape);
        known.tape = NOTHING;
        known.dueAll();
    }

    // ---- Promise 5

    private static void fill() {
        Check.about("Promise 5, n is 0");
        fillOf(0, 9);
        Check.about("Promise 5, n is 1");
        fillOf(1, 9);
        Check.about("Promise 5, n is 4000");
        fillOf(3999, 9);
        fillOf(4000, 9);
        Check.about("Promise 5, i from 0 on");
        firstByteIsSeed();
        Check.about("Promise 5, the lowest 8 bits, past 255");
        for (int seed = 250; seed <= 258; seed++) {
            fillOf(3, seed);
        }
        fillOf(86, 0);
        Check.about("Promise 5, the lowest 8 bits of a seed below 0");
        fillOf(300, -1);
        fillOf(300, -256);
        fillOf(300, Integer.MIN_VALUE);
        Check.about("Promise 5, the lowest 8 bits of a sum past the largest number");
        fillOf(300, Integer.MAX_VALUE);
        fillOf(4000, Integer.MAX_VALUE - 5999);
        Check.about("Promise 5, NONE for n below 0");
        for (int n : FAR) {
            fillRefused(n);
        }
        Check.about("Promise 5, NONE for n above 4000");
        fillRefused(4001);
        fillRefused(4002);
        fillRefused(65536);
        fillRefused(Integer.MAX_VALUE);
    }

    private static void fillOf(int n, int seed) {
        Known known = new Known(6);
        Check.due("fill(" + n + ", " + seed + ")", known.x.fill(n, seed), 75 + n);
        known.bytes = Check.joined(known.bytes, Check.filled(n, seed));
        known.dueAll();
    }

    private static void firstByteIsSeed() {
        KeySums x = new KeySums();
        Check.due("fill(2, 200)", x.fill(2, 200), 2);
        Check.due("sum(false)", x.sum(false), 2);
        Check.dueSum("fill(2, 200)", x, new byte[] {(byte) 200, (byte) 203});
    }

    private static void fillRefused(int n) {
        Known known = new Known(6);
        Check.due("fill(" + n + ", 5)", known.x.fill(n, 5), -1);
        known.dueAll();
    }

    // ---- Promise 6

    private static void key() {
        Check.about("Promise 6, an empty tape is a key of 0s");
        keyTaken(0);
        Check.about("Promise 6, a key of one byte");
        keyTaken(1);
        Check.about("Promise 6, a key one short of sixteen");
        keyTaken(15);
        Check.about("Promise 6, a key of sixteen");
        keyTaken(16);
        Check.about("Promise 6, NONE, changing nothing else, for 17");
        keyRefused(17);
        Check.about("Promise 6, NONE, changing nothing else, for more than 17");
        keyRefused(20);
        keyRefused(32);
        keyRefused(256);
        keyRefused(272);
        keyRefused(2000);
        Check.about("Promise 6, the tape is empty behind a key that is taken");
        tapeEmptyBehindKey(16, 16);
        Check.about("Promise 6, the tape is empty behind a key that is refused");
        tapeEmptyBehindKey(17, -1);
        tapeEmptyBehindKey(2000, -1);
        Check.about("Promise 6, a new object's key stays 0s behind a key that is refused");
        KeySums x = new KeySums();
        Check.due("feed", x.feed(-1, -1, -1, -1, -1), true);
        Check.due("key()", x.key(), -1);
        Check.due("sumAt(0)", x.sumAt(0), -1);
        Check.due("sum(true)", x.sum(true), 0);
        Check.dueSum("sum(true)", x, new byte[16]);
    }

    private static void keyTaken(int size) {
        Known known = new Known(size);
        Check.due("key() of " + size, known.x.key(), size);
        known.key = known.tape;
        known.tape = NOTHING;
        known.dueAll();
    }

    private static void keyRefused(int size) {
        Known known = new Known(size);
        Check.due("key() of " + size, known.x.key(), -1);
        known.tape = NOTHING;
        known.dueAll();
    }

    private static void tapeEmptyBehindKey(int size, int answer) {
        KeySums x = new KeySums();
        Check.tape(x, 0, Check.filled(size, 1));
        Check.due("key() of " + size, x.key(), answer);
        Check.due("end(1)", x.end(1), false);
        Check.due("end(0)", x.end(0), true);
        Check.due("add()", x.add(), 0);
        Check.due("key() again", x.key(), 0);
    }

    // ---- Promise 7

    private static void sum() {
        Check.about("Promise 7, the key is not in an unkeyed sum");
        Known known = new Known(0);
        Check.due("sum(false)", known.x.sum(false), 75);
        Check.dueSum("sum(false)", known.x, known.bytes);
        Check.about("Promise 7, the key's sixteen behind them, not counted in the answer");
        known = new Known(0);
        Check.due("sum(true)", known.x.sum(true), 75);
        Check.dueSum("sum(true)", known.x, Check.joined(known.bytes, Arrays.copyOf(known.key, 16)));
        Check.about("Promise 7, the bytes begin anew behind an unkeyed sum");
        beginsAnew(false);
        Check.about("Promise 7, the bytes begin anew behind a keyed sum");
        beginsAnew(true);
        Check.about("Promise 7, a sum of no bytes is kept too");
        known = new Known(0);
        known.x.sum(true);
        Check.due("sum(false) of none", known.x.sum(false), 0);
        Check.dueSum("sum(false) of none", known.x, NOTHING);
        Check.due("sum(true) of none", known.x.sum(true), 0);
        Check.dueSum("sum(true) of none", known.x, Arrays.copyOf(known.key, 16));
        Check.about("Promise 7, the tape is not among the bytes");
        known = new Known(2000);
        Check.due("sum(false)", known.x.sum(false), 75);
        Check.dueSum("sum(false)", known.x, known.bytes);
    }

    /** Key and tape stay; the bytes and the kept sum are new. */
    private static void beginsAnew(boolean keyed) {
        for (int n = 0; n <= 130; n++) {
            Known known = new Known(5);
            known.x.fill(n, n);
            Check.due("sum(" + keyed + ")", known.x.sum(keyed), 75 + n);
            known.summed = Check.joined(known.bytes, Check.filled(n, n));
            if (keyed) {
                known.summed = Check.joined(known.summed, Arrays.copyOf(known.key, 16));
            }
            Check.due("fill(2, 6)", known.x.fill(2, 6), 2);
            known.bytes = Check.filled(2, 6);
            known.dueAll();
        }
    }

    // ---- Promise 8

    private static void sumAt() {
        Check.about("Promise 8, NONE when there is no sum");
        KeySums x = new KeySums();
        x.fill(10, 1);
        x.feed(1, 2, 3, 4, 5);
        x.key();
        for (int i = -1; i <= 16; i++) {
            Check.due("sumAt(" + i + ")", x.sumAt(i), -1);
        }
        Check.about("Promise 8, NONE when there is no byte i: below 0");
        x.sum(false);
        for (int i : FAR) {
            Check.due("sumAt(" + i + ")", x.sumAt(i), -1);
        }
        Check.about("Promise 8, NONE when there is no byte i: past the last");
        for (int i : new int[] {16, 17, 31, 32, 256, Integer.MAX_VALUE}) {
            Check.due("sumAt(" + i + ")", x.sumAt(i), -1);
        }
        Check.about("Promise 8, the first and the last byte");
        byte[] want = Check.sumOf(Check.filled(10, 1));
        Check.due("sumAt(0)", x.sumAt(0), want[0] & 255);
        Check.due("sumAt(15)", x.sumAt(15), want[15] & 255);
        Check.about("Promise 8, 0 .. 255");
        allByteValues();
        Check.about("Promise 8, the sum is kept until the next one");
        keptUntilNext();
    }

    /** Sums enough to show each of the 256 values at one place or another. */
    private static void allByteValues() {
        boolean[] seen = new boolean[256];
        for (int seed = 0; seed < 256; seed++) {
            KeySums x = new KeySums();
            x.fill(20, seed);
            x.sum(false);
            byte[] want = Check.sumOf(Check.filled(20, seed));
            for (int i = 0; i < 16; i++) {
                Check.due("sumAt(" + i + ")", x.sumAt(i), want[i] & 255);
                seen[want[i] & 255] = true;
            }
        }
        for (int value = 0; value < 256; value++) {
            Check.due("value " + value + " was among them", seen[value], true);
        }
    }

    private static void keptUntilNext() {
        Known known = new Known(20);
        known.x.feed(1, 1, 1, 1, 1);
        known.x.end(41);
        known.x.end(16);
        known.x.key();
        known.x.feed(1, 1, 1, 1, 1);
        known.x.key();
        known.x.feed(1, 1, 1, 1, 1);
        known.x.add();
        known.x.fill(4000, 1);
        known.x.fill(4001, 1);
        known.x.sumAt(16);
        Check.dueSum("sum(false)", known.x, known.summed);
        known.x.sum(false);
        known.x.sum(false);
        Check.dueSum("sum(false) of none", known.x, NOTHING);
    }
}
