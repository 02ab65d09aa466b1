/** Both sides of each boundary in promise 9, and of SIGNED BY. */
public final class SignEdgesTest {
    private static final Check CHECK = new Check("SignEdgesTest");

    public static void main(String[] args) {
        keysAreZeroToNine();
        whatIsSigned();
        theNumberGrows();
        thereAreSixAtMost();
        theLongestTakesSix();
        theSameKeyAgain();
        whatIsThereStays();
        neitherADocumentNorOneWithoutItsNumber();
        theFirstNamed();
        CHECK.end();
    }

    private static Paper part() {
        return Paper.snapshot(1, 9, 3, 1);
    }

    private static int four(Client x, int i) {
        return x.at(i) << 24 | x.at(i + 1) << 16 | x.at(i + 2) << 8 | x.at(i + 3);
    }

    // "IndexOutOfBoundsException when there is no such key"

    private static void keysAreZeroToNine() {
        for (int key = 0; key <= 9; key++) {
            Client x = new Client();
            CHECK.due("key " + key, part().signedIn(x, key), 1);
            CHECK.due("key " + key + " stands there", x.at(8), key);
            CHECK.due("its signature", four(x, 9), part().signatureOf(key));
        }
        Client x = new Client();
        part().into(x);
        for (int key : new int[] {-1, 10, 255, 256, Integer.MIN_VALUE, Integer.MAX_VALUE}) {
            CHECK.refused("key " + key, x, () -> x.sign(key), Check.INDEX);
        }
        Client y = new Client();
        part().signed(0).into(y);
        CHECK.refused("key -1 for a document", y, () -> y.sign(-1), Check.INDEX);
        CHECK.refused("key 10 for a document", y, () -> y.sign(10), Check.INDEX);
    }

    // "it must be a document's signed part from its first byte on, with what follows being signatures or nothing"

    private static void whatIsSigned() {
        Client x = new Client();
        part().into(x);
        CHECK.answers("nothing follows", () -> x.sign(3), 1);
        CHECK.due("six bytes more", x.length(), part().size() + 6);
        CHECK.due("for the signed part alone", four(x, 9), part().signatureOf(3));
        Client y = new Client();
        part().signed().into(y);
        CHECK.answers("the number 0 follows", () -> y.sign(3), 1);
        CHECK.due("five bytes more", y.length(), part().size() + 6);
        CHECK.due("the same document", y.mix(0), x.mix(0));
        Client z = new Client();
        part().signature(3, 12345).into(z);
        CHECK.answers("a wrong signature follows", () -> z.sign(3), 2);
        CHECK.due("the right one comes behind", four(z, 14), part().signatureOf(3));
        CHECK.due("the wrong one stays", four(z, 9), 12345);
    }

    // "the number of them grows by 1 (or is 1), and the key's signature comes behind them ... How many there are then."

    private static void theNumberGrows() {
        Client x = new Client();
        part().into(x);
        for (int count = 1; count <= 6; count++) {
            CHECK.due("signature " + count, x.sign(count), count);
            CHECK.due("number " + count, x.at(7), count);
            CHECK.due("length with " + count, x.length(), 8 + 5 * count);
            CHECK.due("key of the last", x.at(3 + 5 * count), count);
            CHECK.due("value of the last", four(x, 4 + 5 * count), part().signatureOf(count));
        }
        CHECK.due("all as written by hand", x.mix(0), Paper.mix(part().signed(1, 2, 3, 4, 5, 6).bytes(), 0));
    }

    // "UnsupportedOperationException when it has six, or would have more than 120 bytes"

    private static void thereAreSixAtMost() {
        Client x = new Client();
        part().signed(0, 1, 2, 3, 4).into(x);
        CHECK.answers("five take one more", () -> x.sign(5), 6);
        CHECK.refused("six take none", x, () -> x.sign(6), Check.UNSUPPORTED);
        CHECK.refused("nor the same again", x, () -> x.sign(5), Check.UNSUPPORTED);
        x.cut(33);
        x.alter(7, 5);
        CHECK.answers("five again", () -> x.sign(6), 6);
    }

    /** No document comes near 120 bytes: the longest has 113. */
    private static void theLongestTakesSix() {
        Client x = new Client();
        DocumentEdgesTest.longest().into(x);
        CHECK.due("without signatures", x.length(), 82);
        for (int count = 1; count <= 6; count++) {
            CHECK.due("signature " + count, x.sign(9), count);
        }
        CHECK.due("with six", x.length(), 113);
        CHECK.refused("a seventh", x, () -> x.sign(9), Check.UNSUPPORTED);
    }

    // "(whether it is there already or not)"

    private static void theSameKeyAgain() {
        Client x = new Client();
        part().into(x);
        CHECK.due("once", x.sign(4), 1);
        CHECK.due("twice", x.sign(4), 2);
        CHECK.due("both are there", four(x, 9), four(x, 14));
    }

    private static void whatIsThereStays() {
        Client x = new Client();
        Paper before = part().signature(9, -1).signature(0, 7);
        before.into(x);
        x.sign(5);
        int[] bytes = before.bytes();
        bytes[7] = 3;
        for (int i = 0; i < bytes.length; i++) {
            CHECK.due("byte " + i, x.at(i), bytes[i]);
        }
    }

    // "IllegalArgumentException when the draft is neither a document nor one without the number of its signatures"

    private static void neitherADocumentNorOneWithoutItsNumber() {
        Paper whole = part().signed(0, 1);
        for (int n = 0; n <= whole.size(); n++) {
            Client x = new Client();
            whole.into(x);
            x.cut(n);
            if (n == 7) {
                CHECK.answers("without the number", () -> x.sign(2), 1);
            } else if (n == whole.size()) {
                CHECK.answers("a document", () -> x.sign(2), 3);
            } else {
                CHECK.refused("the first " + n, x, () -> x.sign(2), Check.ARGUMENT);
            }
        }
        Client x = new Client();
        part().signed(0, 1).add(0).into(x);
        CHECK.refused("a byte behind", x, () -> x.sign(2), Check.ARGUMENT);
        Client y = new Client();
        part().signed().add(0).into(y);
        CHECK.refused("a byte behind the number 0", y, () -> y.sign(2), Check.ARGUMENT);
        Client z = new Client();
        part().add(7).add(new int[35]).into(z);
        CHECK.refused("seven signatures", z, () -> z.sign(2), Check.ARGUMENT);
        z.alter(7, 6);
        z.cut(z.length() - 5);
        CHECK.refused("six", z, () -> z.sign(2), Check.UNSUPPORTED);
    }

    // "where several exceptions that a call names fit, it is the one that it names first"

    private static void theFirstNamed() {
        Client x = new Client();
        CHECK.refused("no key, no document", x, () -> x.sign(10), Check.INDEX);
        part().signed(new int[6]).into(x);
        CHECK.refused("no key, six signatures", x, () -> x.sign(-1), Check.INDEX);
        CHECK.refused("six signatures", x, () -> x.sign(1), Check.UNSUPPORTED);
        x.put(0, 1);
        CHECK.refused("six signatures, a byte behind", x, () -> x.sign(1), Check.ARGUMENT);
        CHECK.refused("no key, six signatures, a byte behind", x, () -> x.sign(10), Check.INDEX);
        Client y = new Client();
        DocumentEdgesTest.longest().signed(new int[6]).add(new int[7]).into(y);
        CHECK.due("a full draft", y.length(), 120);
        CHECK.refused("no room, no document", y, () -> y.sign(1), Check.ARGUMENT);
    }
}
