import java.nio.charset.StandardCharsets;
import java.util.Arrays;

/** Each promise of the document: ordinary inputs, the edges it names, wrong inputs. */
public final class PromisesTest {
    private static final byte[] NOTHING = new byte[0];
    private static final byte[] ZERO_KEY = new byte[16];

    public static void main(String[] args) {
        promise1NewObject();
        promise1ObjectsAreApart();
        promise2Order();
        promise2Limit();
        promise2LimitBehindAnEnd();
        promise3End();
        promise3CutBytesAreGone();
        promise4Add();
        promise5Fill();
        promise5Refused();
        promise5AsManyAsCallsAllow();
        promise6Key();
        promise6Refused();
        promise7KnownSums();
        promise7EveryLength();
        promise7WhatStays();
        promise8SumAt();
        Check.finish();
    }

    private static void promise1NewObject() {
        Check.due("NONE", KeySums.NONE, -1);
        KeySums x = new KeySums();
        for (int i = 0; i < 16; i++) {
            Check.due("new: sumAt(" + i + ")", x.sumAt(i), -1);
        }
        Check.due("new: end(1)", x.end(1), false);
        Check.due("new: end(0)", x.end(0), true);
        Check.due("new: add()", x.add(), 0);
        Check.due("new: sum(true)", x.sum(true), 0);
        Check.dueSum("new: sum(true)", x, ZERO_KEY);
        Check.due("new: sum(false)", new KeySums().sum(false), 0);
        Check.due("new: key()", new KeySums().key(), 0);
        Check.due("new: fill(0, 0)", new KeySums().fill(0, 0), 0);
    }

    private static void promise1ObjectsAreApart() {
        KeySums x = new KeySums();
        Check.tape(x, 0, Check.filled(16, 200));
        Check.due("key()", x.key(), 16);
        Check.due("fill(70, 1)", x.fill(70, 1), 70);
        Check.due("sum(true)", x.sum(true), 70);
        Check.due("fill(30, 1)", x.fill(30, 1), 30);
        Check.tape(x, 0, Check.filled(40, 3));
        promise1NewObject();
        Check.due("add()", x.add(), 70);
        Check.due("sum(true)", x.sum(true), 70);
        Check.dueSum("sum(true)", x, Check.joined(Check.filled(30, 1), Check.filled(40, 3), Check.filled(16, 200)));
    }

    private static void promise2Order() {
        KeySums x = new KeySums();
        Check.due("feed", x.feed(0x01020304, 0x80ff7f00, 0xfffefdfc, Integer.MIN_VALUE, Integer.MAX_VALUE), true);
        Check.due("feed", x.feed(-1, 0, 1, -2, 0x11121314), true);
        Check.due("end(41)", x.end(41), false);
        Check.due("add()", x.add(), 40);
        Check.due("sum(false)", x.sum(false), 40);
        int[] bytes = {1, 2, 3, 4, 128, 255, 127, 0, 255, 254, 253, 252, 128, 0, 0, 0, 127, 255, 255, 255,
            255, 255, 255, 255, 0, 0, 0, 0, 0, 0, 0, 1, 255, 255, 255, 254, 17, 18, 19, 20};
        byte[] want = new byte[bytes.length];
        for (int i = 0; i < bytes.length; i++) {
            want[i] = (byte) bytes[i];
        }
        Check.dueSum("feed", x, want);
    }

    private static void promise2Limit() {
        KeySums x = new KeySums();
        byte[] bytes = Check.filled(2000, 77);
        Check.tape(x, 0, bytes);
        Check.due("feed over 2000", x.feed(1, 2, 3, 4, 5), false);
        Check.due("feed over 2000 again", x.feed(1, 2, 3, 4, 5), false);
        Check.due("end(2001)", x.end(2001), false);
        Check.due("add()", x.add(), 2000);
        Check.due("feed on the emptied tape", x.feed(0, 0, 0, 0, 0), true);
        Check.due("sum(false)", x.sum(false), 2000);
        Check.dueSum("2000 fed", x, bytes);
    }

    private static void promise2LimitBehindAnEnd() {
        byte[] bytes = Check.filled(2000, 5);
        for (int n = 1960; n <= 2000; n++) {
            KeySums x = new KeySums();
            Check.tape(x, 0, bytes);
            Check.due("end(" + n + ")", x.end(n), true);
            boolean fits = n <= 1980;
            Check.due("feed behind " + n, x.feed(-1, -1, -1, -1, -1), fits);
            byte[] more = new byte[fits ? 20 : 0];
            Arrays.fill(more, (byte) -1);
            Check.due("add()", x.add(), n + more.length);
            x.sum(false);
            Check.dueSum("feed behind " + n, x, Check.joined(Arrays.copyOf(bytes, n), more));
        }
    }

    private static void promise3End() {
        KeySums x = new KeySums();
        byte[] bytes = Check.filled(40, 9);
        Check.tape(x, 0, bytes);
        Check.due("end(41)", x.end(41), false);
        Check.due("end(-1)", x.end(-1), false);
        Check.due("end(MIN)", x.end(Integer.MIN_VALUE), false);
        Check.due("end(MAX)", x.end(Integer.MAX_VALUE), false);
        Check.due("end(40)", x.end(40), true);
        Check.due("end(33)", x.end(33), true);
        Check.due("end(34)", x.end(34), false);
        Check.due("end(-1)", x.end(-1), false);
        Check.due("add()", x.add(), 33);
        Check.due("end(1)", x.end(1), false);
        Check.due("sum(false)", x.sum(false), 33);
        Check.dueSum("end(33)", x, Arrays.copyOf(bytes, 33));
        Check.tape(x, 0, bytes);
        Check.due("end(0)", x.end(0), true);
        Check.due("add()", x.add(), 0);
    }

    private static void promise3CutBytesAreGone() {
        KeySums x = new KeySums();
        byte[] first = Check.filled(3, 100);
        byte[] second = Check.filled(18, 150);
        byte[] third = Check.filled(20, 250);
        Check.tape(x, 0, first);
        Check.tape(x, 3, second);
        Check.tape(x, 21, third);
        Check.due("end(42)", x.end(42), false);
        Check.due("add()", x.add(), 41);
        Check.due("sum(false)", x.sum(false), 41);
        Check.dueSum("feeds behind ends", x, Check.joined(first, second, third));
    }

    private static void promise4Add() {
        KeySums x = new KeySums();
        Check.due("add() of nothing", x.add(), 0);
        Check.due("fill(10, 1)", x.fill(10, 1), 10);
        Check.tape(x, 0, Check.filled(60, 40));
        Check.due("add()", x.add(), 70);
        Check.due("add() again", x.add(), 70);
        Check.due("end(1)", x.end(1), false);
        Check.tape(x, 0, Check.filled(7, 90));
        Check.due("fill(5, 2)", x.fill(5, 2), 75);
        Check.due("add()", x.add(), 82);
        Check.due("sum(false)", x.sum(false), 82);
        Check.dueSum("adds and fills", x, Check.joined(Check.filled(10, 1), Check.filled(60, 40),
                Check.filled(5, 2), Check.filled(7, 90)));
        Check.due("add()", x.add(), 0);
    }

    private static void promise5Fill() {
        int[] seeds = {0, 1, 255, 256, -1, -300, Integer.MAX_VALUE, Integer.MIN_VALUE};
        int[] sizes = {0, 1, 2, 85, 86, 255, 3999, 4000};
        for (int seed : seeds) {
            for (int n : sizes) {
                KeySums x = new KeySums();
                String call = "fill(" + n + ", " + seed + ")";
                Check.due(call, x.fill(n, seed), n);
                Check.due(call + " again", x.fill(n, seed), 2 * n);
                x.sum(false);
                Check.dueSum(call, x, Check.joined(Check.filled(n, seed), Check.filled(n, seed)));
            }
        }
    }

    private static void promise5Refused() {
        KeySums x = new KeySums();
        Check.due("fill(9, 4)", x.fill(9, 4), 9);
        Check.tape(x, 0, Check.filled(8, 3));
        int[] refused = {-1, 4001, Integer.MIN_VALUE, Integer.MAX_VALUE};
        for (int n : refused) {
            Check.due("fill(" + n + ", 0)", x.fill(n, 0), -1);
        }
        Check.due("fill(0, 7)", x.fill(0, 7), 9);
        Check.due("add()", x.add(), 17);
        Check.due("sum(false)", x.sum(false), 17);
        Check.dueSum("refused fills", x, Check.joined(Check.filled(9, 4), Check.filled(8, 3)));
    }

    private static void promise5AsManyAsCallsAllow() {
        KeySums x = new KeySums();
        byte[] all = new byte[495 * 4000];
        for (int i = 0; i < 495; i++) {
            Check.due("fill " + i, x.fill(4000, i), 4000 * (i + 1));
            System.arraycopy(Check.filled(4000, i), 0, all, 4000 * i, 4000);
        }
        Check.due("sum(false)", x.sum(false), all.length);
        Check.dueSum("495 fills", x, all);
    }

    private static void promise6Key() {
        KeySums x = new KeySums();
        int[] sizes = {16, 1, 15, 0, 7, 16};
        for (int size : sizes) {
            byte[] key = Check.filled(size, 130 + size);
            Check.due("fill(50, 6)", x.fill(50, 6), 50);
            Check.tape(x, 0, key);
            Check.due("key() of " + size, x.key(), size);
            Check.due("end(1)", x.end(1), false);
            Check.due("add()", x.add(), 50);
            Check.due("sum(true)", x.sum(true), 50);
            byte[] want = Check.joined(Check.filled(50, 6), Arrays.copyOf(key, 16));
            Check.dueSum("key of " + size, x, want);
        }
        x.feed(1, 2, 3, 4, 5);
        x.end(16);
        x.key();
        Check.dueSum("a key() that leaves the sum", x,
                Check.joined(Check.filled(50, 6), Check.filled(16, 146)));
    }

    private static void promise6Refused() {
        int[] sizes = {17, 20, 40, 2000};
        for (int size : sizes) {
            KeySums x = new KeySums();
            byte[] key = Check.filled(5, 60);
            Check.tape(x, 0, key);
            Check.due("key()", x.key(), 5);
            x.sum(false);
            x.fill(12, 8);
            Check.tape(x, 0, Check.filled(size, 1));
            Check.due("key() of " + size, x.key(), -1);
            Check.dueSum("a refused key", x, NOTHING);
            // "Changing nothing else": the tape is empty, the key is the old one.
            Check.due("end(1) after a refused key", x.end(1), false);
            Check.due("add() after a refused key", x.add(), 12);
            Check.due("sum(true)", x.sum(true), 12);
            Check.dueSum("a refused key", x, Check.joined(Check.filled(12, 8), Arrays.copyOf(key, 16)));
            Check.due("key() of none", x.key(), 0);
            x.sum(true);
            Check.dueSum("a key of none", x, ZERO_KEY);
        }
    }

    private static void promise7KnownSums() {
        String[] texts = {"", "a", "abc", "message digest", "abcdefghijklmnopqrstuvwxyz",
            "ABCDEFGHIJKLMNOPQRSTUVWXYZabcdefghijklmnopqrstuvwxyz0123456789",
            "12345678901234567890123456789012345678901234567890123456789012345678901234567890"};
        String[] sums = {"d41d8cd98f00b204e9800998ecf8427e", "0cc175b9c0f1b6a831c399e269772661",
            "900150983cd24fb0d6963f7d28e17f72", "f96b697d7cb7938d525a2f31aaf161d0",
            "c3fcd3d76192e4007dfb496cca67e13b", "d174ab98d277d9f5a5611c2c9f419d9f",
            "57edf4a22be3c955ac49da2e2107b67a"};
        KeySums x = new KeySums();
        for (int i = 0; i < texts.length; i++) {
            byte[] bytes = texts[i].getBytes(StandardCharsets.ISO_8859_1);
            Check.tape(x, 0, bytes);
            Check.due("add()", x.add(), bytes.length);
            Check.due("sum(false)", x.sum(false), bytes.length);
            Check.dueHex(texts[i], x, sums[i]);
        }
    }

    private static void promise7EveryLength() {
        byte[] key = Check.filled(16, 33);
        for (int n = 0; n <= 200; n++) {
            KeySums x = new KeySums();
            Check.tape(x, 0, key);
            x.key();
            x.fill(n, n);
            Check.due("sum(false) of " + n, x.sum(false), n);
            Check.dueSum("sum(false) of " + n, x, Check.filled(n, n));
            x.fill(n, -n);
            Check.due("sum(true) of " + n, x.sum(true), n);
            Check.dueSum("sum(true) of " + n, x, Check.joined(Check.filled(n, -n), key));
        }
    }

    private static void promise7WhatStays() {
        KeySums x = new KeySums();
        byte[] key = Check.filled(4, 222);
        Check.tape(x, 0, key);
        x.key();
        x.fill(20, 1);
        Check.tape(x, 0, Check.filled(11, 2));
        Check.due("sum(true)", x.sum(true), 20);
        Check.due("sum(true) again", x.sum(true), 0);
        Check.dueSum("a second sum(true)", x, Arrays.copyOf(key, 16));
        Check.due("sum(false)", x.sum(false), 0);
        Check.dueSum("sum(false) of none", x, NOTHING);
        Check.due("end(12)", x.end(12), false);
        Check.due("add() of the tape that stayed", x.add(), 11);
        Check.due("sum(true)", x.sum(true), 11);
        Check.dueSum("the tape and key that stayed", x, Check.joined(Check.filled(11, 2), Arrays.copyOf(key, 16)));
    }

    private static void promise8SumAt() {
        KeySums x = new KeySums();
        int[] none = {-1, 16, 17, -16, Integer.MIN_VALUE, Integer.MAX_VALUE};
        for (int i : none) {
            Check.due("sumAt(" + i + ") before a sum", x.sumAt(i), -1);
        }
        x.fill(100, 50);
        Check.due("sumAt(3) before a sum", x.sumAt(3), -1);
        x.sum(false);
        for (int i : none) {
            Check.due("sumAt(" + i + ")", x.sumAt(i), -1);
        }
        byte[] want = Check.sumOf(Check.filled(100, 50));
        x.fill(64, 1);
        x.fill(-1, 1);
        x.feed(1, 2, 3, 4, 5);
        x.end(9);
        x.add();
        x.feed(1, 2, 3, 4, 5);
        x.key();
        for (int i = 0; i < 16; i++) {
            Check.due("sumAt(" + i + ")", x.sumAt(i), want[i] & 255);
        }
    }
}
