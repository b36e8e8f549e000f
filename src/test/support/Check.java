import java.security.MessageDigest;
import java.security.NoSuchAlgorithmException;
import java.util.Arrays;

/** What the tests share: counting wrong answers, and sums from a source other than KeySums. */
final class Check {
    private static int wrong = 0;
    private static String sentence = "";

    private Check() {
    }

    /** Names the document's sentence that the calls from here on are about. */
    static void about(String text) {
        sentence = text + ": ";
    }

    static void due(String call, Object got, Object want) {
        if (!got.equals(want)) {
            wrong++;
            System.out.println(sentence + call + " answered " + got + ", due is " + want);
        }
    }

    /** The kept sum, byte by byte, is the sum of these bytes. */
    static void dueSum(String call, KeySums x, byte[] bytes) {
        dueHex(call, x, hex(sumOf(bytes)));
    }

    static void dueHex(String call, KeySums x, String want) {
        StringBuilder got = new StringBuilder();
        for (int i = 0; i < 16; i++) {
            got.append(String.format("%02x", x.sumAt(i)));
        }
        due("the sum after " + call, got.toString(), want);
    }

    static byte[] sumOf(byte[] bytes) {
        try {
            return MessageDigest.getInstance("MD5").digest(bytes);
        } catch (NoSuchAlgorithmException e) {
            throw new IllegalStateException(e);
        }
    }

    static byte[] filled(int n, int seed) {
        byte[] bytes = new byte[n];
        for (int i = 0; i < n; i++) {
            bytes[i] = (byte) (seed + 3 * i);
        }
        return bytes;
    }

    static byte[] joined(byte[]... parts) {
        byte[] all = new byte[0];
        for (byte[] part : parts) {
            int at = all.length;
            all = Arrays.copyOf(all, at + part.length);
            System.arraycopy(part, 0, all, at, part.length);
        }
        return all;
    }

    /** Puts the bytes on the tape, which must be able to hold them rounded up to twenties. */
    static void tape(KeySums x, int before, byte[] bytes) {
        feeds(x, Arrays.copyOf(bytes, (bytes.length + 19) / 20 * 20));
        due("end(" + (before + bytes.length) + ")", x.end(before + bytes.length), true);
    }

    /** Feeds the bytes, a multiple of twenty, all of which must fit. */
    static void feeds(KeySums x, byte[] bytes) {
        for (int at = 0; at < bytes.length; at += 20) {
            due("feed", x.feed(number(bytes, at), number(bytes, at + 4), number(bytes, at + 8),
                    number(bytes, at + 12), number(bytes, at + 16)), true);
        }
    }

    private static int number(byte[] bytes, int at) {
        return (bytes[at] & 255) << 24 | (bytes[at + 1] & 255) << 16 | (bytes[at + 2] & 255) << 8 | bytes[at + 3] & 255;
    }

    private static String hex(byte[] bytes) {
        StringBuilder text = new StringBuilder();
        for (byte b : bytes) {
            text.append(String.format("%02x", b & 255));
        }
        return text.toString();
    }

    static void finish() {
        System.out.println(wrong == 0 ? "all answers are as due" : wrong + " answers are not as due");
        if (wrong != 0) {
            System.exit(1);
        }
    }
}
