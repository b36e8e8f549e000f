import java.util.Arrays;

/** Long mixed runs of calls beside a plain model that keeps every byte. */
public final class ModelTest {
    private static final int RUNS = 400;
    private static final int CALLS = 512;
    private static final int DEAREST_TURN = 100;

    private final KeySums x = new KeySums();
    private final StringBuilder told = new StringBuilder();
    private byte[] tape = new byte[0];
    private byte[] bytes = new byte[0];
    private byte[] key = new byte[16];
    private byte[] sum = null;
    private long state;
    private int calls = 0;

    private ModelTest(int run) {
        state = run * 7919L + 17;
        told.append("run ").append(run);
    }

    public static void main(String[] args) {
        for (int run = 0; run < RUNS; run++) {
            ModelTest test = new ModelTest(run);
            while (test.calls + DEAREST_TURN <= CALLS) {
                test.turn();
            }
        }
        Check.finish();
    }

    // A generator written out here, so that every run of the test is the same.
    private int next(int bound) {
        return (int) Math.floorMod(number() & 0xffffffffL, (long) bound);
    }

    private int number() {
        state = state * 6364136223846793005L + 1442695040888963407L;
        return (int) (state >>> 29);
    }

    private void turn() {
        String at = told + ", call " + calls + ": ";
        calls++;
        switch (next(10)) {
            case 0, 1, 2 -> feed(at);
            case 3 -> end(at);
            case 4 -> add(at);
            case 5, 6 -> fill(at);
            case 7 -> key(at);
            case 8 -> sum(at);
            default -> sumAt(at, next(21) - 2);
        }
    }

    private void feed(String at) {
        int times = next(60) == 0 ? DEAREST_TURN : 1;
        calls += times - 1;
        for (int t = 0; t < times; t++) {
            int[] n = {number(), number(), number(), number(), number()};
            boolean fits = tape.length + 20 <= 2000;
            Check.due(at + "feed", x.feed(n[0], n[1], n[2], n[3], n[4]), fits);
            if (fits) {
                int from = tape.length;
                tape = Arrays.copyOf(tape, from + 20);
                for (int i = 0; i < 20; i++) {
                    tape[from + i] = (byte) (n[i / 4] >> (24 - i % 4 * 8));
                }
            }
        }
    }

    private void end(String at) {
        int n = next(tape.length + 4) - 2;
        if (next(2) == 0) {
            n = next(19);
        }
        boolean has = n >= 0 && n <= tape.length;
        Check.due(at + "end(" + n + ")", x.end(n), has);
        if (has) {
            tape = Arrays.copyOf(tape, n);
        }
    }

    private void add(String at) {
        bytes = Check.joined(bytes, tape);
        tape = new byte[0];
        Check.due(at + "add()", x.add(), bytes.length);
    }

    private void fill(String at) {
        int n = next(5) == 0 ? next(4100) - 50 : next(140);
        int seed = number();
        boolean fits = n >= 0 && n <= 4000;
        if (fits) {
            bytes = Check.joined(bytes, Check.filled(n, seed));
        }
        Check.due(at + "fill(" + n + ", " + seed + ")", x.fill(n, seed), fits ? bytes.length : -1);
    }

    private void key(String at) {
        int size = tape.length;
        if (size <= 16) {
            key = Arrays.copyOf(tape, 16);
        }
        tape = new byte[0];
        Check.due(at + "key()", x.key(), size <= 16 ? size : -1);
    }

    private void sum(String at) {
        boolean keyed = next(2) == 0;
        sum = Check.sumOf(keyed ? Check.joined(bytes, key) : bytes);
        Check.due(at + "sum(" + keyed + ")", x.sum(keyed), bytes.length);
        bytes = new byte[0];
        for (int i = 0; i < 16; i++) {
            calls++;
            sumAt(at, i);
        }
    }

    private void sumAt(String at, int i) {
        boolean is = sum != null && i >= 0 && i < 16;
        Check.due(at + "sumAt(" + i + ")", x.sumAt(i), is ? sum[i] & 255 : -1);
    }
}
