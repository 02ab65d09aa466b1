import java.lang.reflect.Field;
import java.lang.reflect.Method;
import java.lang.reflect.Modifier;
import java.util.Arrays;
import java.util.Set;
import java.util.TreeSet;

/** For each promise: ordinary inputs, the edges that the document names, and wrong inputs. */
public final class PromisesTest {
    private static final String ARGUMENT = Check.ARGUMENT;
    private static final String INDEX = Check.INDEX;
    private static final String STATE = Check.STATE;
    private static final String UNSUPPORTED = Check.UNSUPPORTED;
    private static final String NO_ELEMENT = Check.NO_ELEMENT;
    private static final Check CHECK = new Check("PromisesTest");

    public static void main(String[] args) {
        face();
        newObject();
        put();
        cut();
        alterLengthAt();
        mixAndDigest();
        sign();
        signAtItsLimits();
        contentAndTick();
        begin();
        malformedHeadsAndRoots();
        malformedStampsAndSnapshots();
        malformedTargets();
        malformedDelegations();
        malformedSignatures();
        offerRoot();
        offerRootDropsStampAndSnapshot();
        offerStamp();
        offerSnapshot();
        offerTargets();
        offerDelegates();
        offerNamesTheFirstFault();
        trusted();
        seekErrors();
        seekWhatMustHold();
        seekThroughDelegations();
        seekSkipsWhatIsNotVouchedFor();
        seekFinal();
        seekInCircles();
        visits();
        install();
        CHECK.end();
    }

    // What the tests share

    private static void due(String what, Object got, Object want) {
        CHECK.due(what, got, want);
    }

    private static Object seek(Client x, String name) {
        return Check.answerOf(() -> x.seek(name));
    }

    private static Object install(Client x, String name) {
        return Check.answerOf(() -> x.install(name));
    }

    private static void content(Client x, String text) {
        x.keep(text);
    }

    private static Paper root(int version, int end) {
        return Paper.root(version, end, 0, 1, 2, 3);
    }

    /** Trusts root 1, stamp 1 and snapshot 1, all with end 1000; keys 0, 1, 2, 3. */
    private static Client upToSnapshot(int... entries) {
        Client x = new Client();
        due("root", root(1, 1000).signed(0).begunBy(x), "begun");
        Paper snapshot = Paper.snapshot(1, 1000, entries).signed(2);
        due("stamp", Paper.stamp(1, 1000, snapshot).signed(1).offeredTo(x), 1);
        due("snapshot", snapshot.offeredTo(x), 2);
        return x;
    }

    private static void snapshotAnew(Client x, int version, int... entries) {
        Paper snapshot = Paper.snapshot(version, 1000, entries).signed(2);
        due("new stamp", Paper.stamp(version, 1000, snapshot).signed(1).offeredTo(x), 1);
        due("new snapshot", snapshot.offeredTo(x), 2);
    }

    private static Paper head(int role) {
        return Paper.head(role, 1, 1000);
    }

    // The face

    private static void face() {
        Set<String> methods = new TreeSet<>();
        for (Method m : TrustedUpdates.class.getDeclaredMethods()) {
            if (!Modifier.isPrivate(m.getModifiers())) {
                methods.add(m.toString().replace("TrustedUpdates.", "").replace("java.lang.", "")
                        .replace("java.util.", ""));
            }
        }
        due("methods of the face", methods, new TreeSet<>(Set.of(
                "public boolean put(long,int)",
                "public boolean cut(int)",
                "public boolean alter(int,int)",
                "public int length()",
                "public int at(int) throws IndexOutOfBoundsException",
                "public int mix(int)",
                "public boolean digest()",
                "public int sign(int) throws IndexOutOfBoundsException,IllegalArgumentException,"
                        + "UnsupportedOperationException",
                "public int content()",
                "public int tick(int) throws IllegalArgumentException",
                "public void begin() throws IllegalArgumentException",
                "public int offer() throws IllegalArgumentException,IndexOutOfBoundsException,"
                        + "IllegalStateException,UnsupportedOperationException,NoSuchElementException",
                "public int trusted(int,boolean) throws IndexOutOfBoundsException",
                "public int seek(long,int) throws IllegalArgumentException,IllegalStateException",
                "public int visits()",
                "public int install(long,int) throws IllegalArgumentException,IllegalStateException,"
                        + "NoSuchElementException,UnsupportedOperationException",
                "public int installed()")));
        Set<String> fields = new TreeSet<>();
        for (Field f : TrustedUpdates.class.getDeclaredFields()) {
            if (!Modifier.isPrivate(f.getModifiers())) {
                fields.add(f.toString());
            }
        }
        due("fields of the face", fields, Set.of("public static final int TrustedUpdates.NONE"));
        due("NONE", TrustedUpdates.NONE, -1);
        due("the class", Modifier.toString(TrustedUpdates.class.getModifiers()), "public final");
        due("constructors", Arrays.toString(TrustedUpdates.class.getDeclaredConstructors()),
                "[public TrustedUpdates()]");
    }

    // Promise 1

    private static void newObject() {
        Client x = new Client();
        due("new length", x.length(), 0);
        due("new installed", x.installed(), 0);
        due("new visits", x.visits(), 0);
        due("new clock", x.tick(0), 0);
        for (int role = 0; role <= 6; role++) {
            due("new trusted " + role, x.trusted(role, false), -1);
            due("new end " + role, x.trusted(role, true), -1);
        }
        due("new seek", seek(x, "a"), STATE);
        due("digest of no content", x.digest(), true);
        due("its bytes", x.at(0) | x.at(1) | x.at(2) | x.at(3), 0);
    }

    // Promises 2 to 6

    private static void put() {
        Client x = new Client();
        due("put 0 bytes", x.put(1, 0), false);
        due("put 9 bytes", x.put(1, 9), false);
        due("put -1 bytes", x.put(1, -1), false);
        due("put least", x.put(1, Integer.MIN_VALUE), false);
        due("put most", x.put(1, Integer.MAX_VALUE), false);
        due("nothing was put", x.length(), 0);
        due("put 8", x.put(0xF102030405060708L, 8), true);
        for (int i = 0; i < 7; i++) {
            due("byte " + i, x.at(i), 8 - i);
        }
        due("byte 7", x.at(7), 0xF1);
        due("put 2 of more", x.put(0xABCDEFL, 2), true);
        due("byte 8", x.at(8), 0xEF);
        due("byte 9", x.at(9), 0xCD);
        due("length 10", x.length(), 10);
        for (int i = 0; i < 13; i++) {
            x.put(0, 8);
        }
        due("length 114", x.length(), 114);
        due("put 7 to 114", x.put(0, 7), false);
        due("still 114", x.length(), 114);
        due("put 6 to 114", x.put(0, 6), true);
        due("put 1 to 120", x.put(0, 1), false);
        due("length 120", x.length(), 120);
    }

    private static void cut() {
        Client x = new Client();
        due("cut(0) of none", x.cut(0), true);
        due("cut(1) of none", x.cut(1), false);
        x.put(0x030201, 3);
        due("cut(-1)", x.cut(-1), false);
        due("cut(4)", x.cut(4), false);
        due("cut(3)", x.cut(3), true);
        due("length 3", x.length(), 3);
        due("cut(2)", x.cut(2), true);
        due("length 2", x.length(), 2);
        due("first stays", x.at(0), 1);
        due("at what was cut", Check.answerOf(() -> x.at(2)), INDEX);
        x.put(9, 1);
        due("put behind the cut", x.at(2), 9);
    }

    private static void alterLengthAt() {
        Client x = new Client();
        due("alter none", x.alter(0, 1), false);
        due("at none", Check.answerOf(() -> x.at(0)), INDEX);
        x.put(0x0201, 2);
        due("alter(1)", x.alter(1, 0x1FE), true);
        due("its lowest 8 bits", x.at(1), 0xFE);
        due("alter to -1", x.alter(0, -1), true);
        due("is 255", x.at(0), 255);
        due("alter(2)", x.alter(2, 1), false);
        due("alter(-1)", x.alter(-1, 1), false);
        due("length", x.length(), 2);
        due("at(-1)", Check.answerOf(() -> x.at(-1)), INDEX);
        due("at(2)", Check.answerOf(() -> x.at(2)), INDEX);
        due("at(119)", Check.answerOf(() -> x.at(119)), INDEX);
        due("at(120)", Check.answerOf(() -> x.at(120)), INDEX);
    }

    // Promises 7 and 8

    private static void mixAndDigest() {
        Client x = new Client();
        due("mix of nothing with 0", x.mix(0), 0);
        due("mix of nothing with 1", x.mix(1), 0x9E3779B9);
        x.put(0x7978, 2);
        due("mix of xy with 0", x.mix(0), 2021160513);
        due("mix of xy with 7", x.mix(7), -592860249);
        due("mix with -3", x.mix(-3), Paper.mix(new int[] {0x78, 0x79}, -3));
        due("content", x.content(), 2);
        x.cut(0);
        x.put(0x80FF, 2);
        due("high bytes", x.mix(5), Paper.mix(new int[] {0xFF, 0x80}, 5));
        due("digest", x.digest(), true);
        due("length", x.length(), 6);
        int digest = x.at(2) << 24 | x.at(3) << 16 | x.at(4) << 8 | x.at(5);
        due("the content's digest, the highest first", digest, 2021160513);
        for (int i = 0; i < 111; i++) {
            x.put(0, 1);
        }
        due("digest at 117", x.digest(), false);
        due("still 117", x.length(), 117);
        x.cut(116);
        due("digest at 116", x.digest(), true);
        due("now 120", x.length(), 120);
    }

    // Promise 9

    private static void sign() {
        Client x = new Client();
        Paper bare = Paper.snapshot(1, 1000, 3, 1);
        due("sign a bare one", bare.signedIn(x, 4), 1);
        due("six bytes more", x.length(), 13);
        due("number", x.at(7), 1);
        due("key", x.at(8), 4);
        int signature = x.at(9) << 24 | x.at(10) << 16 | x.at(11) << 8 | x.at(12);
        due("signature", signature, bare.signatureOf(4));
        due("sign again", x.sign(0), 2);
        due("same key again", x.sign(4), 3);
        due("five bytes each", x.length(), 23);
        due("number 3", x.at(7), 3);
        due("key 0", x.at(13), 0);
        due("key 4", x.at(18), 4);
        signature = x.at(19) << 24 | x.at(20) << 16 | x.at(21) << 8 | x.at(22);
        due("signature is for the signed part", signature, bare.signatureOf(4));
        due("no signatures yet", Paper.snapshot(1, 1000, 3, 1).signed().signedIn(x, 9), 1);
        due("key 10", Paper.snapshot(1, 1000, 3, 1).signedIn(x, 10), INDEX);
        due("key -1", Paper.snapshot(1, 1000, 3, 1).signedIn(x, -1), INDEX);
        due("unchanged", x.length(), 7);
        due("key 10 for nothing", Paper.of().signedIn(x, 10), INDEX);
        due("nothing", Paper.of().signedIn(x, 1), ARGUMENT);
        due("half a body", Paper.of(2, 1, 0, 9, 1, 3).signedIn(x, 1), ARGUMENT);
        due("half a signature", Paper.snapshot(1, 9, 3, 1).add(1, 2, 0, 0, 0).signedIn(x, 1), ARGUMENT);
        due("bytes behind", Paper.snapshot(1, 9, 3, 1).signed(1).add(0).signedIn(x, 1), ARGUMENT);
        due("still unchanged", x.length(), 14);
    }

    private static void signAtItsLimits() {
        Client x = new Client();
        due("a sixth", Paper.snapshot(1, 9, 3, 1).signed(1, 1, 1, 1, 1).signedIn(x, 9), 6);
        due("a seventh", Check.answerOf(() -> x.sign(9)), UNSUPPORTED);
        due("unchanged", x.length(), 7 + 1 + 30);
        // The longest signed part there is; with six signatures it has 113 bytes, so no document
        // ever meets the limit of 120.
        Paper big = head(3).add(4).target("aaaa", "").target("bbbb", "").target("cccc", "")
                .target("dddd", "").add(3).add(4, 0).set(1, 0, 1, 2, 3).word("abc")
                .add(5, 0).set(1, 0, 1, 2, 3).word("abc").add(6, 0).set(1, 0, 1, 2, 3).word("abc");
        due("size of the longest", big.size(), 82);
        due("first", big.signedIn(x, 0), 1);
        for (int i = 2; i <= 6; i++) {
            due("signature " + i, x.sign(0), i);
        }
        due("size", x.length(), 113);
        Paper root = Paper.head(0, 1, 9).set(1, 0, 1, 2, 3).set(1, 0, 1, 2, 3).set(1, 0, 1, 2, 3)
                .set(1, 0, 1, 2, 3);
        due("longest root", root.signed(0, 1, 2, 3, 4).signedIn(x, 5), 6);
    }

    // Promises 10 and 11

    private static void contentAndTick() {
        Client x = new Client();
        due("empty content", x.content(), 0);
        x.put(0x414243, 3);
        due("content of 3", x.content(), 3);
        x.alter(0, 0);
        x.cut(1);
        x.digest();
        int digest = x.at(1) << 24 | x.at(2) << 16 | x.at(3) << 8 | x.at(4);
        due("content is kept as it was", digest, Paper.mix(new int[] {0x43, 0x42, 0x41}, 0));
        due("tick(0)", x.tick(0), 0);
        due("tick(10000)", x.tick(10000), 10000);
        due("tick(1)", x.tick(1), 10001);
        due("tick(-1)", Check.answerOf(() -> x.tick(-1)), ARGUMENT);
        due("tick(10001)", Check.answerOf(() -> x.tick(10001)), ARGUMENT);
        due("clock stays", x.tick(0), 10001);
    }

    // Promise 12

    private static void begin() {
        Client x = upToSnapshot(3, 1, 4, 1, 5, 1, 6, 1);
        due("targets", head(3).add(0, 0).signed(3).offeredTo(x), 3);
        for (int role = 4; role <= 6; role++) {
            due("delegate", head(role).add(0, 0).signed().offeredTo(x), role);
        }
        due("a stamp is no root", Paper.of(1, 1, 3, 232, 1, 0, 0, 0, 0, 0).begunBy(x), ARGUMENT);
        due("unsigned part alone", root(2, 9).begunBy(x), ARGUMENT);
        due("bytes behind", root(2, 9).signed(0).add(0).begunBy(x), ARGUMENT);
        due("nothing", Paper.of().begunBy(x), ARGUMENT);
        due("root stays", x.trusted(0, false), 1);
        due("delegate stays", x.trusted(5, false), 1);
        x.tick(500);
        due("unsigned root past its end", root(77, 9).signed().begunBy(x), "begun");
        due("version", x.trusted(0, false), 77);
        due("end", x.trusted(0, true), 9);
        for (int role = 1; role <= 6; role++) {
            due("no more " + role, x.trusted(role, false), -1);
        }
        due("clock goes on", x.tick(0), 500);
        due("again, of the same version", root(77, 9).signed(1).begunBy(x), "begun");
    }

    // What is malformed, by way of offer: a malformed one is told first, whatever else is wrong

    private static void malformed(String what, Paper paper) {
        due(what, paper.offeredTo(new Client()), ARGUMENT);
    }

    private static void wellFormed(String what, Paper paper) {
        due(what, paper.offeredTo(new Client()), INDEX);
    }

    private static void malformedHeadsAndRoots() {
        malformed("nothing", Paper.of());
        malformed("role alone", Paper.of(0));
        malformed("head alone", Paper.head(0, 1, 9));
        wellFormed("root", root(1, 9).signed());
        wellFormed("version 255, end 65535", root(255, 65535).signed());
        malformed("version 0", root(0, 9).signed(0));
        malformed("role 7", Paper.head(7, 1, 9).add(0, 0).signed(0));
        malformed("role 255", Paper.head(255, 1, 9).add(0, 0).signed(0));
        Paper three = Paper.head(0, 1, 9).set(1, 0).set(1, 0).set(1, 0);
        malformed("three key sets", three.signed());
        malformed("threshold 0", rootWith(Paper.of(0, 1, 0)));
        malformed("no keys", rootWith(Paper.of(1, 0)));
        malformed("threshold 0 of none", rootWith(Paper.of(0, 0)));
        malformed("five keys", rootWith(Paper.of(1, 5, 0, 1, 2, 3, 4)));
        wellFormed("four keys", rootWith(Paper.of(4, 4, 0, 3, 8, 9)));
        malformed("threshold above keys", rootWith(Paper.of(3, 2, 0, 1)));
        wellFormed("threshold of all", rootWith(Paper.of(2, 2, 0, 1)));
        malformed("same key twice", rootWith(Paper.of(1, 2, 1, 1)));
        malformed("keys fall", rootWith(Paper.of(1, 2, 2, 1)));
        malformed("key 10", rootWith(Paper.of(1, 2, 2, 10)));
        wellFormed("key 9", rootWith(Paper.of(1, 1, 9)));
    }

    private static Paper rootWith(Paper lastSet) {
        return Paper.head(0, 1, 9).set(1, 0).set(1, 0).set(1, 0).add(lastSet.bytes()).signed(0);
    }

    private static void malformedStampsAndSnapshots() {
        wellFormed("stamp", Paper.head(1, 1, 9).add(1, 0, 0, 0, 0).signed());
        malformed("stamp of version 0", Paper.head(1, 1, 9).add(0, 0, 0, 0, 0).signed());
        malformed("stamp too short", Paper.head(1, 1, 9).add(1, 0, 0, 0));
        malformed("stamp without number", Paper.head(1, 1, 9).add(1, 0, 0, 0, 0));
        wellFormed("one entry", Paper.snapshot(1, 9, 3, 1).signed());
        wellFormed("four entries", Paper.snapshot(1, 9, 3, 1, 4, 255, 5, 1, 6, 1).signed());
        wellFormed("a role left out", Paper.snapshot(1, 9, 3, 1, 6, 1).signed());
        malformed("no entry", Paper.snapshot(1, 9).signed());
        malformed("five entries", Paper.snapshot(1, 9, 3, 1, 4, 1, 5, 1, 6, 1, 7, 1).signed());
        malformed("first is not TARGETS", Paper.snapshot(1, 9, 4, 1).signed());
        malformed("SNAPSHOT first", Paper.snapshot(1, 9, 2, 1, 3, 1).signed());
        malformed("role twice", Paper.snapshot(1, 9, 3, 1, 3, 1).signed());
        malformed("roles fall", Paper.snapshot(1, 9, 3, 1, 5, 1, 4, 1).signed());
        malformed("role 7 in it", Paper.snapshot(1, 9, 3, 1, 7, 1).signed());
        malformed("version 0 first", Paper.snapshot(1, 9, 3, 0).signed());
        malformed("version 0 later", Paper.snapshot(1, 9, 3, 1, 4, 0).signed());
        malformed("entry cut off", Paper.head(2, 1, 9).add(2, 3, 1, 4));
    }

    private static void malformedTargets() {
        for (int role = 3; role <= 6; role++) {
            wellFormed("nothing in it", head(role).add(0, 0).signed());
        }
        wellFormed("four targets", head(3).add(4).target("a", "").target("aa", "x")
                .target("aaa", "").target("zzzz", "").add(0).signed());
        malformed("five targets", head(3).add(5).target("a", "").target("b", "")
                .target("c", "").target("d", "").target("e", "").add(0).signed());
        malformed("no letters", head(3).add(1).target("", "").add(0).signed());
        malformed("five letters", head(3).add(1).target("abcde", "").add(0).signed());
        malformed("a big letter", head(3).add(1).target("aB", "").add(0).signed());
        malformed("before a", head(3).add(1).target("`", "").add(0).signed());
        malformed("after z", head(3).add(1).target("{", "").add(0).signed());
        wellFormed("length 255", head(3).add(1).word("az").add(255).four(-1).add(0).signed());
        malformed("name twice", head(3).add(2).target("ab", "x").target("ab", "y").add(0).signed());
        malformed("name twice, apart", head(4).add(3).target("ab", "").target("ac", "")
                .target("ab", "").add(0).signed());
        malformed("last name twice", head(4).add(4).target("a", "").target("b", "")
                .target("ab", "x").target("ab", "").add(0).signed());
        wellFormed("names alike", head(4).add(3).target("ab", "").target("abc", "")
                .target("b", "").add(0).signed());
        malformed("no delegations' number", head(3).add(1).target("ab", ""));
        malformed("digest cut off", head(3).add(1).word("ab").add(0, 0, 0, 0));
        malformed("length cut off", head(3).add(1).word("ab"));
        malformed("name cut off", head(3).add(1, 4, 'a', 'b', 'c'));
    }

    private static void malformedDelegations() {
        wellFormed("three", head(3).add(0, 3).delegation(6, 0, 1, 0, "").delegation(4, 1, 1, 9, "abc")
                .delegation(5, 0, 1, 0, "z").signed());
        malformed("four", head(3).add(0, 4).delegation(6, 0, 1, 0, "").delegation(4, 1, 1, 9, "")
                .delegation(5, 0, 1, 0, "").delegation(3, 0, 1, 0, "").signed());
        malformed("role 3", head(3).add(0, 1).delegation(3, 0, 1, 0, "").signed());
        malformed("role 7", head(3).add(0, 1).delegation(7, 0, 1, 0, "").signed());
        malformed("role twice", head(3).add(0, 2).delegation(4, 0, 1, 0, "a")
                .delegation(4, 0, 1, 0, "b").signed());
        malformed("role twice, apart", head(3).add(0, 3).delegation(4, 0, 1, 0, "a")
                .delegation(5, 0, 1, 0, "a").delegation(4, 0, 1, 0, "b").signed());
        wellFormed("to itself", head(4).add(0, 1).delegation(4, 0, 1, 0, "").signed());
        malformed("final 2", head(3).add(0, 1).delegation(4, 2, 1, 0, "").signed());
        malformed("final 255", head(3).add(0, 1).delegation(4, 255, 1, 0, "").signed());
        malformed("threshold 0", head(3).add(0, 1).delegation(4, 0, 0, 0, "").signed());
        malformed("threshold 2 of 1", head(3).add(0, 1).delegation(4, 0, 2, 0, "").signed());
        malformed("key 10", head(3).add(0, 1).delegation(4, 0, 1, 10, "").signed());
        malformed("prefix of 4", head(3).add(0, 1).delegation(4, 0, 1, 0, "abcd").signed());
        malformed("prefix with a big letter", head(3).add(0, 1).delegation(4, 0, 1, 0, "aZ").signed());
        malformed("prefix cut off", head(3).add(0, 1).delegation(4, 0, 1, 0, "").cut(1).add(3));
        malformed("no prefix", head(3).add(0, 1, 4, 0).set(1, 0));
    }

    private static void malformedSignatures() {
        wellFormed("six", root(1, 9).signed(0, 1, 2, 3, 4, 9));
        malformed("seven", root(1, 9).signed(0, 1, 2, 3, 4, 5, 6));
        wellFormed("the same twice", root(1, 9).signed(0, 0));
        wellFormed("a wrong one", root(1, 9).signature(0, 5));
        malformed("of key 10", root(1, 9).signature(10, 5));
        malformed("of key 255", root(1, 9).signed(0).signature(255, 5));
        malformed("cut off", root(1, 9).add(1, 0, 0, 0, 0));
        malformed("one less than said", root(1, 9).add(2).add(0).four(0));
        malformed("one more than said", root(1, 9).add(0).add(0).four(0));
        malformed("a byte behind", root(1, 9).signed(0).add(0));
        Client x = new Client();
        due("a document", Paper.snapshot(1, 9, 3, 1).signedIn(x, 0), 1);
        x.alter(1, 0);
        due("is none with version 0", Check.answerOf(() -> x.sign(0)), ARGUMENT);
        due("nor for an offer", Check.answerOf(x::offer), ARGUMENT);
        x.alter(1, 2);
        due("and one again", Check.answerOf(() -> x.sign(0)), 2);
        x.alter(0, 9);
        due("but not for role 9", Check.answerOf(() -> x.sign(0)), ARGUMENT);
    }

    // Promise 13

    private static void offerRoot() {
        Client x = new Client();
        due("no root is trusted", root(1, 1000).signed(0).offeredTo(x), INDEX);
        Paper first = Paper.head(0, 5, 10).set(2, 0, 1, 2).set(1, 3).set(1, 4).set(1, 5);
        first.signed().begunBy(x);
        x.tick(10);
        due("old root has ended", x.trusted(0, true), 10);
        due("same keys", next(6).signed(0, 6).offeredTo(x), STATE);
        due("not its own", next(6).signed(0, 1, 2).offeredTo(x), STATE);
        due("one of the old twice", next(6).signed(0, 0, 6, 7).offeredTo(x), STATE);
        due("one of its own", next(6).signed(0, 1, 6).offeredTo(x), STATE);
        due("others too", next(6).signed(8, 0, 2, 7, 6).offeredTo(x), 0);
        due("it may have ended", x.trusted(0, true), 7);
        due("the old keys do not do any more", next(7).signed(0, 1, 2).offeredTo(x), STATE);
        due("same version", next(6).signed(6, 7).offeredTo(x), UNSUPPORTED);
        due("two more", next(8).signed(6, 7).offeredTo(x), UNSUPPORTED);
        due("one less", next(5).signed(6, 7).offeredTo(x), UNSUPPORTED);
        due("still 6", x.trusted(0, false), 6);
        due("one more", next(7).signed(6, 7).offeredTo(x), 0);
        due("now 7", x.trusted(0, false), 7);
        root(255, 10).signed().begunBy(x);
        due("none comes after 255", root(1, 10).signed(0).offeredTo(x), UNSUPPORTED);
    }

    private static Paper next(int version) {
        return Paper.head(0, version, 7).set(2, 6, 7).set(1, 3).set(1, 4).set(1, 5);
    }

    private static void offerRootDropsStampAndSnapshot() {
        droppedAfter("same keys", Paper.root(2, 1000, 0, 1, 2, 3), false);
        droppedAfter("other root and targets keys", Paper.root(2, 1000, 5, 1, 2, 6), false);
        droppedAfter("other stamp key", Paper.root(2, 1000, 0, 7, 2, 3), true);
        droppedAfter("other snapshot key", Paper.root(2, 1000, 0, 1, 7, 3), true);
        droppedAfter("another stamp key more",
                Paper.head(0, 2, 1000).set(1, 0).set(1, 1, 7).set(1, 2).set(1, 3), true);
        droppedAfter("another snapshot key more",
                Paper.head(0, 2, 1000).set(1, 0).set(1, 1).set(1, 2, 7).set(1, 3), true);
        droppedAfter("more root keys", Paper.head(0, 2, 1000).set(1, 0, 5, 6).set(1, 1).set(1, 2)
                .set(1, 3, 4), false);
        droppedAfter("other threshold for targets", Paper.head(0, 2, 1000).set(1, 0).set(1, 1)
                .set(1, 2).set(2, 3, 4), false);
        Client x = new Client();
        Paper.head(0, 1, 9).set(1, 0).set(1, 1, 2).set(1, 1).set(1, 1).signed().begunBy(x);
        Paper snapshot = Paper.snapshot(1, 9, 3, 1).signed(1);
        due("stamp", Paper.stamp(1, 9, snapshot).signed(1).offeredTo(x), 1);
        due("other threshold", Paper.head(0, 2, 9).set(1, 0).set(2, 1, 2).set(1, 1).set(1, 1)
                .signed(0).offeredTo(x), 0);
        due("drops the stamp", x.trusted(1, false), -1);
        due("stamp of two", Paper.stamp(1, 9, snapshot).signed(1, 2).offeredTo(x), 1);
        due("another last key", Paper.head(0, 3, 9).set(1, 0).set(2, 1, 3).set(1, 1).set(1, 1)
                .signed(0).offeredTo(x), 0);
        due("drops it too", x.trusted(1, false), -1);
        due("one of two", Paper.head(0, 4, 9).set(1, 0).set(1, 1, 3).set(1, 1).set(1, 1)
                .signed(0).offeredTo(x), 0);
        due("stamp of one", Paper.stamp(1, 9, snapshot).signed(3).offeredTo(x), 1);
        due("one of two others", Paper.head(0, 5, 9).set(1, 0).set(1, 1, 4).set(1, 1).set(1, 1)
                .signed(0).offeredTo(x), 0);
        due("drops it again", x.trusted(1, false), -1);
    }

    private static void droppedAfter(String what, Paper newRoot, boolean dropped) {
        Client x = upToSnapshot(3, 1, 4, 1);
        due("targets", head(3).add(0, 0).signed(3).offeredTo(x), 3);
        due("delegate", head(4).add(0, 0).signed().offeredTo(x), 4);
        due(what, newRoot.signed(0, 5).offeredTo(x), 0);
        due(what + ": stamp", x.trusted(1, false), dropped ? -1 : 1);
        due(what + ": snapshot", x.trusted(2, false), dropped ? -1 : 1);
        due(what + ": targets", x.trusted(3, false), 1);
        due(what + ": delegate", x.trusted(4, false), 1);
        due(what + ": seek", seek(x, "a"), dropped ? STATE : (Object) (-1));
    }

    private static void offerStamp() {
        Client x = new Client();
        Paper four = Paper.snapshot(4, 1000, 3, 1).signed(2);
        Paper five = Paper.snapshot(5, 1000, 3, 1).signed(2);
        due("no root", Paper.stamp(1, 1000, five).signed(1).offeredTo(x), INDEX);
        root(1, 100).signed().begunBy(x);
        due("not signed", Paper.stamp(2, 1000, five).signed().offeredTo(x), STATE);
        due("signed by another", Paper.stamp(2, 1000, five).signed(0, 2, 3).offeredTo(x), STATE);
        Paper wrong = Paper.stamp(2, 1000, five);
        due("a wrong signature", wrong.signature(1, wrong.signatureOf(1) ^ 1).offeredTo(x), STATE);
        Paper foreign = Paper.stamp(2, 1000, five);
        due("another's signature", foreign.signature(1, foreign.signatureOf(2)).offeredTo(x), STATE);
        Paper both = Paper.stamp(2, 1000, five);
        due("a wrong and the right one", both.signature(1, 0).signed(1).offeredTo(x), 1);
        due("version", x.trusted(1, false), 2);
        due("end", x.trusted(1, true), 1000);
        due("again", Paper.stamp(2, 900, five).signed(1).offeredTo(x), 1);
        due("other end", x.trusted(1, true), 900);
        due("older", Paper.stamp(1, 1000, five).signed(1).offeredTo(x), UNSUPPORTED);
        due("older snapshot", Paper.stamp(3, 1000, four).signed(1).offeredTo(x), UNSUPPORTED);
        x.tick(50);
        due("ends now", Paper.stamp(3, 50, five).signed(1).offeredTo(x), NO_ELEMENT);
        due("ends soon", Paper.stamp(3, 51, five).signed(1).offeredTo(x), 1);
        x.tick(5);
        due("older than one that has ended", Paper.stamp(2, 900, five).signed(1).offeredTo(x),
                UNSUPPORTED);
        x.tick(44);
        due("root ends soon", Paper.stamp(4, 900, five).signed(1).offeredTo(x), 1);
        x.tick(1);
        due("root has ended", Paper.stamp(5, 900, five).signed(1).offeredTo(x), INDEX);
        due("stamp stays", x.trusted(1, false), 4);
    }

    private static void offerSnapshot() {
        Client x = new Client();
        Paper two = Paper.snapshot(2, 1000, 3, 5, 4, 7).signed(2);
        due("no root", two.offeredTo(x), INDEX);
        root(1, 1000).signed().begunBy(x);
        due("no stamp", two.offeredTo(x), INDEX);
        due("stamp", Paper.stamp(1, 1000, two).signed(1).offeredTo(x), 1);
        due("not signed so", Paper.snapshot(2, 1000, 3, 5, 4, 7).signed(1).offeredTo(x), STATE);
        due("other digest", Paper.snapshot(2, 1000, 3, 5, 4, 7).signed(2, 2).offeredTo(x), UNSUPPORTED);
        due("other version", Paper.snapshot(1, 1000, 3, 5, 4, 7).signed(2).offeredTo(x), UNSUPPORTED);
        due("as said", two.offeredTo(x), 2);
        due("again", two.offeredTo(x), 2);
        refusedAfterStamp(x, Paper.snapshot(3, 1000, 3, 4, 4, 7));
        refusedAfterStamp(x, Paper.snapshot(3, 1000, 3, 5, 4, 6));
        refusedAfterStamp(x, Paper.snapshot(3, 1000, 3, 6));
        refusedAfterStamp(x, Paper.snapshot(3, 1000, 3, 6, 5, 7));
        snapshotAnew(x, 4, 3, 5, 4, 8, 6, 2);
        due("version", x.trusted(2, false), 4);
        Paper lastOlder = Paper.snapshot(4, 1000, 3, 5, 4, 8, 6, 1).signed(2);
        due("its stamp", Paper.stamp(4, 1000, lastOlder).signed(1).offeredTo(x), 1);
        due("the last is older", lastOlder.offeredTo(x), UNSUPPORTED);
        Paper ended = Paper.snapshot(4, 20, 3, 5, 4, 8, 6, 2).signed(2);
        due("stamp of one that ends", Paper.stamp(4, 30, ended).signed(1).offeredTo(x), 1);
        x.tick(20);
        due("ended", ended.offeredTo(x), NO_ELEMENT);
        due("end stays", x.trusted(2, true), 1000);
        x.tick(10);
        due("stamp has ended", ended.offeredTo(x), INDEX);
    }

    private static void refusedAfterStamp(Client x, Paper snapshot) {
        snapshot.signed(2);
        due("stamp of it", Paper.stamp(3, 1000, snapshot).signed(1).offeredTo(x), 1);
        due("an older version in it", snapshot.offeredTo(x), UNSUPPORTED);
        due("stays", x.trusted(2, false), 2);
    }

    private static void offerTargets() {
        Client x = new Client();
        due("no root", head(3).add(0, 0).signed(3).offeredTo(x), INDEX);
        root(1, 1000).signed().begunBy(x);
        due("no snapshot", head(3).add(0, 0).signed(3).offeredTo(x), INDEX);
        Paper snapshot = Paper.snapshot(1, 100, 3, 2).signed(2);
        due("stamp", Paper.stamp(1, 50, snapshot).signed(1).offeredTo(x), 1);
        due("snapshot", snapshot.offeredTo(x), 2);
        x.tick(50);
        due("not signed", Paper.head(3, 2, 1000).add(0, 0).signed(0, 1, 2).offeredTo(x), STATE);
        due("older", Paper.head(3, 1, 1000).add(0, 0).signed(3).offeredTo(x), UNSUPPORTED);
        due("newer", Paper.head(3, 3, 1000).add(0, 0).signed(3).offeredTo(x), UNSUPPORTED);
        due("ended", Paper.head(3, 2, 50).add(0, 0).signed(3).offeredTo(x), NO_ELEMENT);
        due("none yet", x.trusted(3, false), -1);
        due("the stamp may have ended", Paper.head(3, 2, 51).add(0, 0).signed(3).offeredTo(x), 3);
        due("version", x.trusted(3, false), 2);
        due("same version, other text", Paper.head(3, 2, 60).add(0, 0).signed(3).offeredTo(x), 3);
        due("its end", x.trusted(3, true), 60);
        x.tick(50);
        due("snapshot has ended", Paper.head(3, 2, 1000).add(0, 0).signed(3).offeredTo(x), INDEX);
    }

    private static void offerDelegates() {
        Client x = upToSnapshot(3, 1, 5, 4);
        due("not in the snapshot", head(4).add(0, 0).signed(3).offeredTo(x), INDEX);
        due("other version", head(5).add(0, 0).signed(3).offeredTo(x), UNSUPPORTED);
        x.tick(7);
        due("ended", Paper.head(5, 4, 7).add(0, 0).signed().offeredTo(x), NO_ELEMENT);
        due("needs no signatures", Paper.head(5, 4, 8).add(0, 0).signed().offeredTo(x), 5);
        due("version", x.trusted(5, false), 4);
        due("end", x.trusted(5, true), 8);
        due("not the others", x.trusted(4, false), -1);
        due("nor TARGETS", x.trusted(3, false), -1);
        Client y = new Client();
        root(1, 1000).signed().begunBy(y);
        Paper snapshot = Paper.snapshot(1, 1000, 3, 1).signed(2, 2, 2, 2);
        due("stamp", Paper.stamp(1, 1000, snapshot).signed(1).offeredTo(y), 1);
        due("four signatures", snapshot.offeredTo(y), 2);
        due("are no entry for role 4", Paper.head(4, 2, 1000).add(0, 0).signed().offeredTo(y), INDEX);
    }

    private static void offerNamesTheFirstFault() {
        Client x = upToSnapshot(3, 2);
        x.tick(10);
        due("malformed and the rest", Paper.head(3, 1, 1).add(0, 0).signed(1).add(0).offeredTo(x), ARGUMENT);
        due("unsigned, old and ended", Paper.head(3, 1, 1).add(0, 0).signed(1).offeredTo(x), STATE);
        due("old and ended", Paper.head(3, 1, 1).add(0, 0).signed(3).offeredTo(x), UNSUPPORTED);
        due("no entry, ended", Paper.head(6, 1, 1).add(0, 0).signed(3).offeredTo(x), INDEX);
        due("root unsigned and old", root(1, 1).signed(1).offeredTo(x), STATE);
        due("stamp old and ended",
                Paper.head(1, 1, 1).add(1, 0, 0, 0, 0).signed(1).offeredTo(x), NO_ELEMENT);
        x.tick(990);
        due("all ended", Paper.head(3, 1, 1).add(0, 0).signed(1).offeredTo(x), INDEX);
        for (int role = 0; role <= 2; role++) {
            due("unchanged " + role, x.trusted(role, false), 1);
        }
        due("no targets", x.trusted(3, false), -1);
    }

    // Promise 14

    private static void trusted() {
        Client x = new Client();
        root(255, 65535).signed().begunBy(x);
        due("version 255", x.trusted(0, false), 255);
        due("end 65535", x.trusted(0, true), 65535);
        root(1, 0x0102).signed().begunBy(x);
        due("end, the highest first", x.trusted(0, true), 0x0102);
        x.alter(1, 9);
        due("a draft that changes does not matter", x.trusted(0, false), 1);
        x.tick(10000);
        due("ended, yet trusted", x.trusted(0, false), 1);
        due("role -1", Check.answerOf(() -> x.trusted(-1, false)), INDEX);
        due("role 7", Check.answerOf(() -> x.trusted(7, true)), INDEX);
        due("role 6", x.trusted(6, true), -1);
    }

    // Promises 15 and 16

    private static void seekErrors() {
        Client x = new Client();
        due("no letters", seek(x, ""), ARGUMENT);
        due("five letters", seek(x, "abcde"), ARGUMENT);
        due("-1 letters", Check.answerOf(() -> x.seek(Client.w("a"), -1)), ARGUMENT);
        due("big letter", seek(x, "aB"), ARGUMENT);
        due("big letter first", seek(x, "Ba"), ARGUMENT);
        due("before a", seek(x, "abc`"), ARGUMENT);
        due("after z", seek(x, "{"), ARGUMENT);
        due("letter missing", Check.answerOf(() -> x.seek(Client.w("a"), 2)), ARGUMENT);
        due("a name", seek(x, "zzzz"), STATE);
        due("only n letters count", Check.answerOf(() -> x.seek(Client.w("ab") | 0xFFFF0000L, 2)), STATE);
        due("install of no name", install(x, "A"), ARGUMENT);
        due("install of a name", install(x, "a"), STATE);
    }

    private static void seekWhatMustHold() {
        for (int first = 0; first <= 3; first++) {
            Client x = new Client();
            root(1, first == 0 ? 10 : 20).signed().begunBy(x);
            due("root alone", seek(x, "a"), STATE);
            Paper snapshot = Paper.snapshot(1, first == 2 ? 10 : 20, 3, 1).signed(2);
            Paper.stamp(1, first == 1 ? 10 : 20, snapshot).signed(1).offeredTo(x);
            due("no snapshot", seek(x, "a"), STATE);
            snapshot.offeredTo(x);
            due("no targets", seek(x, "a"), STATE);
            Paper.head(3, 1, first == 3 ? 10 : 20).add(1).target("a", "").add(0).signed(3).offeredTo(x);
            due("all are there", seek(x, "a"), 3);
            x.tick(9);
            due("none has ended", seek(x, "a"), 3);
            x.tick(1);
            due("role " + first + " has ended", seek(x, "a"), STATE);
            due("install then", install(x, "a"), STATE);
        }
        Client x = upToSnapshot(3, 1);
        due("targets", head(3).add(1).target("a", "").add(0).signed(3).offeredTo(x), 3);
        snapshotAnew(x, 2, 3, 2);
        due("still trusted", x.trusted(3, false), 1);
        due("but not fresh", seek(x, "a"), STATE);
        due("new targets", Paper.head(3, 2, 1000).add(1).target("b", "").add(0).signed(3).offeredTo(x), 3);
        due("in place of the old", seek(x, "a"), -1);
        due("the new ones", seek(x, "b"), 3);
        due("new root", Paper.root(2, 1000, 0, 1, 2, 9).signed(0).offeredTo(x), 0);
        due("the targets stay whoever signed them", seek(x, "b"), 3);
    }

    private static void seekThroughDelegations() {
        Client x = upToSnapshot(3, 1, 4, 1, 5, 1, 6, 1);
        due("targets", head(3).add(2).target("ab", "").target("zz", "").add(2)
                .delegation(5, 0, 1, 5, "a").delegation(4, 0, 1, 4, "").signed(3).offeredTo(x), 3);
        due("role 4", head(4).add(3).target("abcd", "").target("q", "").target("zz", "").add(0)
                .signed(4).offeredTo(x), 4);
        due("role 5", head(5).add(2).target("ab", "").target("abc", "").add(1)
                .delegation(6, 0, 1, 6, "abc").signed(5).offeredTo(x), 5);
        due("role 6", head(6).add(2).target("abcd", "").target("axx", "").add(0)
                .signed(6).offeredTo(x), 6);
        found(x, "ab", 3, 1);
        found(x, "zz", 3, 1);
        found(x, "q", 4, 2);
        found(x, "abc", 5, 2);
        found(x, "abcd", 6, 3);
        found(x, "abca", -1, 4);
        found(x, "axx", -1, 3);
        found(x, "a", -1, 3);
        found(x, "z", -1, 2);
        found(x, "bab", -1, 2);
    }

    private static void found(Client x, String name, int role, int visits) {
        due("seek " + name, seek(x, name), role);
        due("visits of " + name, x.visits(), visits);
    }

    private static void seekSkipsWhatIsNotVouchedFor() {
        Client x = upToSnapshot(3, 1, 4, 1, 5, 1);
        due("targets", head(3).add(0, 3)
                .add(4, 1).set(2, 4, 5, 6).word("")
                .delegation(5, 0, 1, 5, "").delegation(6, 1, 1, 6, "").signed(3).offeredTo(x), 3);
        found(x, "a", -1, 1);
        Paper four = head(4).add(1).target("a", "").add(0);
        due("signed by one of two", four.signed(4, 4, 7).offeredTo(x), 4);
        found(x, "a", -1, 1);
        due("role 5", Paper.head(5, 1, 10).add(1).target("a", "").add(0).signed(5).offeredTo(x), 5);
        found(x, "a", 5, 2);
        due("signed by two", head(4).add(1).target("a", "").add(0).signed(6, 4).offeredTo(x), 4);
        found(x, "a", 4, 2);
        found(x, "b", -1, 2);
        snapshotAnew(x, 2, 3, 1, 4, 2, 5, 1);
        found(x, "a", 5, 2);
        found(x, "b", -1, 2);
        x.tick(10);
        found(x, "a", -1, 1);
    }

    private static void seekFinal() {
        Client x = upToSnapshot(3, 1, 4, 1, 5, 1, 6, 1);
        due("targets", head(3).add(0, 2).delegation(4, 0, 1, 4, "").delegation(6, 0, 1, 6, "")
                .signed(3).offeredTo(x), 3);
        due("role 4", head(4).add(0, 1).delegation(5, 1, 1, 5, "a").signed(4).offeredTo(x), 4);
        due("role 5", head(5).add(1).target("aa", "").add(0).signed(5).offeredTo(x), 5);
        due("role 6", head(6).add(2).target("ab", "").target("b", "").add(0).signed(6).offeredTo(x), 6);
        found(x, "aa", 5, 3);
        found(x, "ab", -1, 3);
        found(x, "b", 6, 3);
        due("role 5 by another key", head(5).add(0, 0).signed(6).offeredTo(x), 5);
        found(x, "ab", 6, 3);
    }

    private static void seekInCircles() {
        Client x = upToSnapshot(3, 1, 4, 1, 5, 1, 6, 1);
        due("targets", head(3).add(0, 2).delegation(4, 0, 1, 4, "").delegation(6, 1, 1, 6, "")
                .signed(3).offeredTo(x), 3);
        due("role 4", head(4).add(0, 3).delegation(4, 1, 1, 4, "").delegation(5, 0, 1, 5, "")
                .delegation(6, 0, 1, 6, "").signed(4).offeredTo(x), 4);
        due("role 5", head(5).add(0, 1).delegation(4, 1, 1, 4, "").signed(5).offeredTo(x), 5);
        due("role 6", head(6).add(1).target("x", "").add(2).delegation(5, 1, 1, 5, "")
                .delegation(4, 1, 1, 4, "").signed(6).offeredTo(x), 6);
        found(x, "x", 6, 4);
        found(x, "y", -1, 4);
    }

    private static void visits() {
        Client x = upToSnapshot(3, 1, 4, 1);
        due("targets", head(3).add(1).target("a", "x").add(1).delegation(4, 0, 1, 4, "")
                .signed(3).offeredTo(x), 3);
        due("role 4", head(4).add(1).target("b", "x").add(0).signed(4).offeredTo(x), 4);
        due("none yet", x.visits(), 0);
        content(x, "x");
        found(x, "b", 4, 2);
        due("install a", install(x, "a"), 3);
        due("visits of install", x.visits(), 1);
        due("install of c", install(x, "c"), NO_ELEMENT);
        due("throws: as before", x.visits(), 1);
        content(x, "y");
        due("install of b", install(x, "b"), UNSUPPORTED);
        due("throws: still as before", x.visits(), 1);
        due("no name", seek(x, "B"), ARGUMENT);
        due("no name: as before", x.visits(), 1);
        found(x, "c", -1, 2);
        x.tick(1000);
        due("ended", seek(x, "a"), STATE);
        due("ended: as before", x.visits(), 2);
    }

    // Promises 17 and 18

    private static void install() {
        Client x = upToSnapshot(3, 1, 4, 1);
        int digest = Paper.mix("xyz".chars().toArray(), 0);
        due("targets", head(3).add(3).target("a", "xyz").word("l").add(4).four(digest)
                .target("e", "").add(1).delegation(4, 0, 1, 4, "b").signed(3).offeredTo(x), 3);
        due("role 4", head(4).add(2).target("b", "xyz").target("bc", "").add(0)
                .signed(4).offeredTo(x), 4);
        due("no content yet", install(x, "a"), UNSUPPORTED);
        due("an empty one", install(x, "e"), 3);
        content(x, "xyz");
        due("as said", install(x, "a"), 3);
        due("other length", install(x, "l"), UNSUPPORTED);
        due("by a delegate", install(x, "b"), 4);
        due("again", install(x, "b"), 4);
        due("not an empty one", install(x, "bc"), UNSUPPORTED);
        due("not found", install(x, "c"), NO_ELEMENT);
        due("installed", x.installed(), 4);
        content(x, "xyy");
        due("other digest", install(x, "a"), UNSUPPORTED);
        due("no name", install(x, "abcde"), ARGUMENT);
        due("still", x.installed(), 4);
        root(3, 1000).signed().begunBy(x);
        due("begin leaves what was installed", x.installed(), 4);
        due("but nothing to install", install(x, "a"), STATE);
    }
}
