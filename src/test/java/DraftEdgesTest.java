/** Both sides of each boundary in promises 1 to 8, 10 and 11: the draft, the content, the clock. */
public final class DraftEdgesTest {
    private static final Check CHECK = new Check("DraftEdgesTest");
    private static final int MIX_OF_120 = -289666932;
    private static final int[] FAR = {Integer.MIN_VALUE, -1000, 1000, Integer.MAX_VALUE};

    public static void main(String[] args) {
        newObjectHasNothing();
        newObjectRefuses();
        putTakesOneToEightBytes();
        putTakesTheLowestBitsFirst();
        putStopsAt120();
        cutOfNothing();
        cutKeepsNoneToAll();
        cutOfAFullDraft();
        whatWasCutIsGone();
        alterReachesFirstAndLast();
        alterOfAFullDraft();
        alterTakesTheLowestEightBits();
        lengthFromNoneToFull();
        atReachesFirstAndLast();
        atOfAFullDraft();
        atAnswersBytesWithoutSign();
        mixOfNothing();
        mixOfEachEnd();
        mixOfAFullDraft();
        digestOfNoContent();
        digestHasTheHighestByteFirst();
        digestStopsAt120();
        contentFromNoneToFull();
        contentIsReplaced();
        contentIsACopy();
        tickTakesNoneToTenThousand();
        clockGoesOnForAllCalls();
        CHECK.end();
    }

    private static Client full(int length) {
        Client x = new Client();
        for (int i = 0; i < length; i++) {
            x.put(i + 1, 1);
        }
        CHECK.due("length of the draft made", x.length(), length);
        return x;
    }

    // Promise 1: "No draft, nothing trusted, nothing installed."

    private static void newObjectHasNothing() {
        Client x = new Client();
        CHECK.due("new length", x.length(), 0);
        CHECK.due("new mix", x.mix(1), 0x9E3779B9);
        for (int role = 0; role <= 6; role++) {
            CHECK.due("new version of " + role, x.trusted(role, false), -1);
            CHECK.due("new end of " + role, x.trusted(role, true), -1);
        }
        CHECK.due("new installed", x.installed(), 0);
        CHECK.due("new visits", x.visits(), 0);
        CHECK.due("new clock", x.tick(0), 0);
        CHECK.due("NONE", TrustedUpdates.NONE, -1);
    }

    private static void newObjectRefuses() {
        Client x = new Client();
        CHECK.refused("new at(0)", x, () -> x.at(0), Check.INDEX);
        CHECK.refused("new alter(0)", x, () -> x.alter(0, 1), false);
        CHECK.refused("new cut(1)", x, () -> x.cut(1), false);
        CHECK.refused("new sign", x, () -> x.sign(0), Check.ARGUMENT);
        CHECK.refused("new begin", x, x::begin, Check.ARGUMENT);
        CHECK.refused("new offer", x, x::offer, Check.ARGUMENT);
        CHECK.refused("new seek", x, () -> x.seek("a"), Check.STATE);
        CHECK.refused("new install", x, () -> x.install("a"), Check.STATE);
        Client y = new Client();
        y.keep("x");
        CHECK.due("two objects share nothing", x.length(), 0);
    }

    // Promise 2: "False, changing nothing, when n is not 1 .. 8, or it would have more than 120."

    private static void putTakesOneToEightBytes() {
        for (int n = 1; n <= 8; n++) {
            Client x = full(3);
            CHECK.due("put of " + n, x.put(-1, n), true);
            CHECK.due("length behind put of " + n, x.length(), 3 + n);
            CHECK.due("last byte of " + n, x.at(2 + n), 255);
        }
        Client x = full(3);
        for (int n : new int[] {0, 9, -1, -8, 264}) {
            CHECK.refused("put of " + n, x, () -> x.put(-1, n), false);
        }
        Client y = new Client();
        for (int n : FAR) {
            CHECK.refused("put of " + n, y, () -> y.put(-1, n), false);
        }
    }

    private static void putTakesTheLowestBitsFirst() {
        Client x = new Client();
        x.put(0x8102030405060708L, 8);
        for (int i = 0; i < 7; i++) {
            CHECK.due("byte " + i, x.at(i), 8 - i);
        }
        CHECK.due("byte 7", x.at(7), 0x81);
        x.put(Long.MIN_VALUE | 0x1FF, 2);
        CHECK.due("the lowest", x.at(8), 255);
        CHECK.due("the next", x.at(9), 1);
        CHECK.due("no bytes above n", x.length(), 10);
    }

    private static void putStopsAt120() {
        for (int n = 1; n <= 8; n++) {
            int bytes = n;
            Client x = full(121 - n);
            CHECK.refused("put of " + n + " to " + (121 - n), x, () -> x.put(7, bytes), false);
            x.cut(120 - n);
            CHECK.due("put of " + n + " to " + (120 - n), x.put(0, bytes), true);
            CHECK.due("is full", x.length(), 120);
            CHECK.due("first byte stays", x.at(0), 1);
            CHECK.refused("put of 1 to 120", x, () -> x.put(7, 1), false);
        }
    }

    // Promise 3: "False, changing nothing, when n is negative or it has not so many."

    private static void cutOfNothing() {
        Client x = new Client();
        CHECK.refused("cut(-1) of none", x, () -> x.cut(-1), false);
        CHECK.refused("cut(1) of none", x, () -> x.cut(1), false);
        CHECK.due("cut(0) of none", x.cut(0), true);
        CHECK.due("still none", x.length(), 0);
    }

    private static void cutKeepsNoneToAll() {
        Client x = full(3);
        CHECK.refused("cut(-1) of 3", x, () -> x.cut(-1), false);
        CHECK.refused("cut(4) of 3", x, () -> x.cut(4), false);
        for (int n : FAR) {
            CHECK.refused("cut(" + n + ") of 3", x, () -> x.cut(n), false);
        }
        CHECK.refused("cut(3) of 3", x, () -> x.cut(3), true);
        CHECK.due("cut(2) of 3", x.cut(2), true);
        CHECK.due("length 2", x.length(), 2);
        CHECK.due("first", x.at(0), 1);
        CHECK.due("second", x.at(1), 2);
        CHECK.due("cut(0) of 2", x.cut(0), true);
        CHECK.due("length 0", x.length(), 0);
    }

    private static void cutOfAFullDraft() {
        Client x = full(120);
        CHECK.refused("cut(121) of 120", x, () -> x.cut(121), false);
        CHECK.refused("cut(120) of 120", x, () -> x.cut(120), true);
        CHECK.due("cut(119) of 120", x.cut(119), true);
        CHECK.due("length 119", x.length(), 119);
        CHECK.due("last", x.at(118), 119);
    }

    private static void whatWasCutIsGone() {
        Client x = full(3);
        x.cut(1);
        CHECK.refused("cut(2) behind cut(1)", x, () -> x.cut(2), false);
        CHECK.refused("at(1) behind cut(1)", x, () -> x.at(1), Check.INDEX);
        CHECK.refused("alter(1) behind cut(1)", x, () -> x.alter(1, 9), false);
        CHECK.due("mix of what is left", x.mix(0), Paper.mix(new int[] {1}, 0));
        x.put(9, 1);
        CHECK.due("put behind cut(1)", x.at(1), 9);
        CHECK.due("length then", x.length(), 2);
    }

    // Promise 4: "Byte i of the draft becomes v (its lowest 8 bits). False when there is none."

    private static void alterReachesFirstAndLast() {
        Client none = new Client();
        CHECK.refused("alter(0) of none", none, () -> none.alter(0, 7), false);
        Client x = full(3);
        CHECK.refused("alter(-1)", x, () -> x.alter(-1, 7), false);
        CHECK.refused("alter(3) of 3", x, () -> x.alter(3, 7), false);
        for (int i : FAR) {
            CHECK.refused("alter(" + i + ")", x, () -> x.alter(i, 7), false);
        }
        CHECK.due("alter(0)", x.alter(0, 7), true);
        CHECK.due("alter(2)", x.alter(2, 8), true);
        CHECK.due("first", x.at(0), 7);
        CHECK.due("middle stays", x.at(1), 2);
        CHECK.due("last", x.at(2), 8);
        CHECK.due("length stays", x.length(), 3);
    }

    private static void alterOfAFullDraft() {
        Client x = full(120);
        CHECK.refused("alter(120) of 120", x, () -> x.alter(120, 7), false);
        CHECK.due("alter(119) of 120", x.alter(119, 7), true);
        CHECK.due("byte 119", x.at(119), 7);
        CHECK.due("byte 118 stays", x.at(118), 119);
    }

    private static void alterTakesTheLowestEightBits() {
        int[][] pairs = {{0, 0}, {127, 127}, {128, 128}, {255, 255}, {256, 0}, {257, 1}, {-1, 255},
            {-128, 128}, {-256, 0}, {Integer.MIN_VALUE, 0}, {Integer.MAX_VALUE, 255}};
        Client x = full(1);
        for (int[] pair : pairs) {
            CHECK.due("alter to " + pair[0], x.alter(0, pair[0]), true);
            CHECK.due("byte " + pair[0], x.at(0), pair[1]);
        }
    }

    // Promise 5: "How many bytes the draft has."

    private static void lengthFromNoneToFull() {
        Client x = new Client();
        for (int n = 0; n < 120; n++) {
            CHECK.due("length " + n, x.length(), n);
            x.put(n, 1);
        }
        CHECK.due("length 120", x.length(), 120);
        x.put(1, 1);
        CHECK.due("no more than 120", x.length(), 120);
        x.content();
        CHECK.due("content leaves the draft", x.length(), 120);
    }

    // Promise 6: "Byte i of the draft. IndexOutOfBoundsException when there is none."

    private static void atReachesFirstAndLast() {
        Client x = full(3);
        CHECK.due("at(0)", x.at(0), 1);
        CHECK.due("at(2)", x.at(2), 3);
        CHECK.refused("at(-1)", x, () -> x.at(-1), Check.INDEX);
        CHECK.refused("at(3) of 3", x, () -> x.at(3), Check.INDEX);
        for (int i : FAR) {
            CHECK.refused("at(" + i + ")", x, () -> x.at(i), Check.INDEX);
        }
    }

    private static void atOfAFullDraft() {
        Client x = full(120);
        CHECK.due("at(119) of 120", x.at(119), 120);
        CHECK.refused("at(120) of 120", x, () -> x.at(120), Check.INDEX);
        x.cut(119);
        CHECK.refused("at(119) of 119", x, () -> x.at(119), Check.INDEX);
    }

    private static void atAnswersBytesWithoutSign() {
        Client x = new Client();
        x.put(0xFF807F00L, 4);
        CHECK.due("byte 0", x.at(0), 0);
        CHECK.due("byte 127", x.at(1), 127);
        CHECK.due("byte 128", x.at(2), 128);
        CHECK.due("byte 255", x.at(3), 255);
    }

    // Promise 7, "THE MIX of a row of bytes with a number s ... all wrapping"

    private static void mixOfNothing() {
        Client x = new Client();
        CHECK.due("none with 0", x.mix(0), 0);
        CHECK.due("none with 1", x.mix(1), 0x9E3779B9);
        CHECK.due("none with -1", x.mix(-1), 0x61C88647);
        CHECK.due("none with the least", x.mix(Integer.MIN_VALUE), Integer.MIN_VALUE);
        CHECK.due("none with the greatest", x.mix(Integer.MAX_VALUE), -506952121);
    }

    private static void mixOfEachEnd() {
        Client x = new Client();
        x.put(0, 1);
        CHECK.due("a zero byte with 0", x.mix(0), 0);
        CHECK.due("a zero byte with 1", x.mix(1), -900396398);
        x.alter(0, 255);
        CHECK.due("255 with 0", x.mix(0), -16748690);
        x.alter(0, 128);
        CHECK.due("128 with 10", x.mix(10), 1733179731);
        x.put(255, 1);
        CHECK.due("128, 255 with the least", x.mix(Integer.MIN_VALUE), 2134757152);
        CHECK.refused("mix changes nothing", x, () -> x.mix(10), 1277448589);
    }

    private static void mixOfAFullDraft() {
        Client x = full(120);
        CHECK.due("1 .. 120 with 0", x.mix(0), MIX_OF_120);
        x.cut(119);
        CHECK.due("1 .. 119 with 0", x.mix(0), 2135566581);
    }

    // Promise 8: "False, changing nothing, when it would have more than 120."

    private static int four(Client x, int i) {
        return x.at(i) << 24 | x.at(i + 1) << 16 | x.at(i + 2) << 8 | x.at(i + 3);
    }

    private static void digestOfNoContent() {
        Client x = full(1);
        CHECK.due("no content", x.digest(), true);
        CHECK.due("four bytes more", x.length(), 5);
        CHECK.due("of no bytes", four(x, 1), 0);
        CHECK.due("first stays", x.at(0), 1);
        x.cut(0);
        CHECK.due("empty content", x.content(), 0);
        CHECK.due("of the empty one", x.digest(), true);
        CHECK.due("is none too", four(x, 0), 0);
    }

    private static void digestHasTheHighestByteFirst() {
        Client x = full(120);
        x.content();
        x.cut(2);
        CHECK.due("digest", x.digest(), true);
        CHECK.due("of the content, not of the draft", four(x, 2), MIX_OF_120);
        CHECK.due("twice", x.digest(), true);
        CHECK.due("the same", four(x, 6), MIX_OF_120);
        CHECK.due("length", x.length(), 10);
    }

    private static void digestStopsAt120() {
        for (int length = 117; length <= 120; length++) {
            Client x = full(length);
            x.content();
            CHECK.refused("digest behind " + length, x, x::digest, false);
        }
        Client x = full(116);
        CHECK.due("digest behind 116", x.digest(), true);
        CHECK.due("is full", x.length(), 120);
        CHECK.refused("digest behind 120", x, x::digest, false);
    }

    // Promise 10: "The draft is kept as the content that install() is about. How many bytes it has."

    private static void contentFromNoneToFull() {
        Client x = new Client();
        CHECK.due("content of none", x.content(), 0);
        x.put(1, 1);
        CHECK.due("content of 1", x.content(), 1);
        CHECK.due("content of 120", full(120).content(), 120);
        CHECK.due("the draft stays", x.length(), 1);
    }

    private static void contentIsReplaced() {
        Client x = full(120);
        x.content();
        x.cut(1);
        CHECK.due("a shorter one", x.content(), 1);
        x.digest();
        CHECK.due("has none of the longer one", four(x, 1), Paper.mix(new int[] {1}, 0));
        x.cut(0);
        CHECK.due("an empty one", x.content(), 0);
        x.digest();
        CHECK.due("has nothing", four(x, 0), 0);
    }

    private static void contentIsACopy() {
        Client x = full(3);
        x.content();
        x.alter(0, 99);
        x.cut(2);
        x.put(77, 1);
        x.digest();
        CHECK.due("as it was then", four(x, 3), Paper.mix(new int[] {1, 2, 3}, 0));
        CHECK.due("the draft is its own", x.at(0), 99);
    }

    // Promise 11: "IllegalArgumentException when n is not 0 .. 10000."

    private static void tickTakesNoneToTenThousand() {
        Client x = new Client();
        CHECK.refused("tick(-1) at 0", x, () -> x.tick(-1), Check.ARGUMENT);
        CHECK.refused("tick(10001) at 0", x, () -> x.tick(10001), Check.ARGUMENT);
        CHECK.due("tick(0)", x.tick(0), 0);
        CHECK.due("tick(1)", x.tick(1), 1);
        CHECK.due("tick(10000)", x.tick(10000), 10001);
        for (int n : FAR) {
            if (n != 1000) {
                CHECK.refused("tick(" + n + ")", x, () -> x.tick(n), Check.ARGUMENT);
            }
        }
        CHECK.refused("tick(-1)", x, () -> x.tick(-1), Check.ARGUMENT);
        CHECK.refused("tick(10001)", x, () -> x.tick(10001), Check.ARGUMENT);
        CHECK.due("tick(9999)", x.tick(9999), 20000);
    }

    /** "An object is used for at most 512 calls": the clock does not wrap or stop before. */
    private static void clockGoesOnForAllCalls() {
        Client x = new Client();
        for (int i = 1; i <= Client.MOST_CALLS; i++) {
            CHECK.due("call " + i, x.tick(10000), 10000 * i);
        }
    }
}
