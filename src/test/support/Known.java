import java.util.Arrays;

/** An object whose key, bytes, tape and sum are known and all unlike, to see what a call left alone. */
final class Known {
    final KeySums x = new KeySums();
    byte[] key = Check.filled(11, 201);
    byte[] bytes = Check.filled(75, 31);
    byte[] tape;
    byte[] summed = Check.filled(9, 140);

    Known(int tapeSize) {
        tape = Check.filled(tapeSize, 90);
        Check.tape(x, 0, key);
        Check.due("key()", x.key(), key.length);
        Check.due("fill(9, 140)", x.fill(9, 140), 9);
        Check.due("sum(false)", x.sum(false), 9);
        Check.due("fill(75, 31)", x.fill(75, 31), 75);
        Check.tape(x, 0, tape);
    }

    /** Looks at the sum, tape, bytes and key, in this order; the object is used up by it. */
    void dueAll() {
        Check.dueSum("what the sum must be still", x, summed);
        Check.due("end(" + (tape.length + 1) + ")", x.end(tape.length + 1), false);
        Check.due("end(" + tape.length + ")", x.end(tape.length), true);
        Check.due("fill(0, 0)", x.fill(0, 0), bytes.length);
        Check.due("add()", x.add(), bytes.length + tape.length);
        Check.due("sum(true)", x.sum(true), bytes.length + tape.length);
        Check.dueSum("bytes, tape and key", x, Check.joined(bytes, tape, Arrays.copyOf(key, 16)));
    }
}
