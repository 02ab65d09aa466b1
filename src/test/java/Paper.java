import java.util.Arrays;

/** Writes documents byte by byte, well-formed or not, and brings them to an object's draft. */
final class Paper {
    private int[] bytes = new int[0];
    private int signedSize = -1;
    private int signatures = 0;

    static Paper of(int... parts) {
        return new Paper().add(parts);
    }

    static Paper head(int role, int version, int end) {
        return of(role, version, end >> 8, end & 255);
    }

    /** A root whose four key sets each have one key. */
    static Paper root(int version, int end, int root, int stamp, int snapshot, int targets) {
        return head(0, version, end).set(1, root).set(1, stamp).set(1, snapshot).set(1, targets);
    }

    static Paper stamp(int version, int end, Paper snapshot) {
        return head(1, version, end).add(snapshot.bytes[1]).four(mix(snapshot.bytes, 0));
    }

    /** Entries are pairs of a role and a version. */
    static Paper snapshot(int version, int end, int... entries) {
        return head(2, version, end).add(entries.length / 2).add(entries);
    }

    Paper set(int threshold, int... keys) {
        return add(threshold, keys.length).add(keys);
    }

    Paper word(String letters) {
        add(letters.length());
        for (char c : letters.toCharArray()) {
            add(c);
        }
        return this;
    }

    Paper target(String name, String content) {
        int[] row = content.chars().toArray();
        return word(name).add(row.length).four(mix(row, 0));
    }

    Paper delegation(int role, int last, int threshold, int key, String prefix) {
        return add(role, last).set(threshold, key).word(prefix);
    }

    Paper add(int... more) {
        int size = bytes.length;
        bytes = Arrays.copyOf(bytes, size + more.length);
        System.arraycopy(more, 0, bytes, size, more.length);
        return this;
    }

    Paper cut(int n) {
        bytes = Arrays.copyOf(bytes, bytes.length - n);
        return this;
    }

    Paper four(int v) {
        return add(v >>> 24, v >>> 16 & 255, v >>> 8 & 255, v & 255);
    }

    Paper signed(int... keys) {
        begunSignatures();
        for (int key : keys) {
            signature(key, mix(Arrays.copyOf(bytes, signedSize), key + 1));
        }
        return this;
    }

    Paper signature(int key, int value) {
        begunSignatures();
        bytes[signedSize] = ++signatures;
        return add(key).four(value);
    }

    private void begunSignatures() {
        if (signedSize < 0) {
            signedSize = bytes.length;
            add(0);
        }
    }

    int size() {
        return bytes.length;
    }

    int[] bytes() {
        return bytes.clone();
    }

    int signatureOf(int key) {
        return mix(signedSize < 0 ? bytes : Arrays.copyOf(bytes, signedSize), key + 1);
    }

    static int mix(int[] row, int s) {
        int h = s * 0x9E3779B9;
        for (int b : row) {
            h = (h ^ b) * 0x01000193;
            h = h ^ (h >>> 15);
        }
        return h;
    }

    Client into(Client x) {
        x.cut(0);
        for (int i = 0; i < bytes.length; i += 8) {
            int n = Math.min(8, bytes.length - i);
            if (!x.put(packed(i, n), n)) {
                throw new AssertionError("the paper is too long for a draft");
            }
        }
        return x;
    }

    private long packed(int from, int n) {
        long w = 0;
        for (int i = n - 1; i >= 0; i--) {
            w = w << 8 | bytes[from + i] & 255;
        }
        return w;
    }

    Object begunBy(Client x) {
        into(x);
        return Check.answerOf(x::begin);
    }

    Object offeredTo(Client x) {
        into(x);
        return Check.answerOf(x::offer);
    }

    Object signedIn(Client x, int key) {
        into(x);
        return Check.answerOf(() -> x.sign(key));
    }
}
