import java.util.function.Supplier;

/** A test for each sentence of the promises 1 to 18. */
final class PromiseSentences {
    private static final Check CHECK = SentencesTest.CHECK;
    private static final Scene SCENE = SentencesTest.SCENE;
    private static final int V = Scene.VERSION;
    private static final int END = Scene.END;

    private PromiseSentences() {
    }

    private static Paper stamp(int version, int end) {
        return Paper.head(1, version, end).add(V).four(0);
    }

    private static Client ticked(Client x, int n) {
        x.tick(n);
        return x;
    }

    /** The bytes 1, 2, 3 and so on. */
    private static Client counting(int length) {
        Client x = new Client();
        for (int i = 1; i <= length; i++) {
            x.put(i, 1);
        }
        return x;
    }

    private static void draftIs(String what, Client x, int... bytes) {
        CHECK.due(what + ": length", x.length(), bytes.length);
        for (int i = 0; i < bytes.length; i++) {
            CHECK.due(what + ": byte " + i, x.at(i), bytes[i]);
        }
    }

    // Promise 1

    static void newObject() {
        Client x = new Client();
        CHECK.due("length", x.length(), 0);
        for (int role = 0; role <= 6; role++) {
            CHECK.due("trusted", x.trusted(role, false), -1);
        }
        CHECK.due("installed", x.installed(), 0);
        CHECK.due("visits", x.visits(), 0);
        CHECK.refused("nothing to offer", x, x::offer, Check.ARGUMENT);
        CHECK.refused("nothing to seek in", x, () -> x.seek("a"), Check.STATE);
    }

    // Promises 2 to 8

    static void put() {
        Client x = new Client();
        CHECK.due("put of 8", x.put(0x8899AABBCCDDEEFFL, 8), true);
        draftIs("8", x, 0xFF, 0xEE, 0xDD, 0xCC, 0xBB, 0xAA, 0x99, 0x88);
        CHECK.due("put of 1", x.put(0x101, 1), true);
        CHECK.due("put of 3", x.put(-2, 3), true);
        draftIs("12", x, 0xFF, 0xEE, 0xDD, 0xCC, 0xBB, 0xAA, 0x99, 0x88, 1, 0xFE, 0xFF, 0xFF);
    }

    static void putThatIsRefused() {
        Client x = counting(113);
        for (int n : new int[] {0, -1, 9, Integer.MIN_VALUE, Integer.MAX_VALUE}) {
            CHECK.refused("put of " + n, x, () -> x.put(7, n), false);
        }
        CHECK.refused("put of 8 to 113", x, () -> x.put(7, 8), false);
        CHECK.due("put of 7 to 113", x.put(7, 7), true);
        CHECK.due("length", x.length(), 120);
        CHECK.refused("put of 1 to 120", x, () -> x.put(7, 1), false);
    }

    static void cut() {
        Client x = counting(5);
        CHECK.due("cut(5)", x.cut(5), true);
        draftIs("5", x, 1, 2, 3, 4, 5);
        CHECK.due("cut(2)", x.cut(2), true);
        draftIs("2", x, 1, 2);
        CHECK.due("cut(0)", x.cut(0), true);
        draftIs("0", x);
    }

    static void cutThatIsRefused() {
        Client x = counting(5);
        for (int n : new int[] {-1, 6, 120, Integer.MIN_VALUE, Integer.MAX_VALUE}) {
            CHECK.refused("cut(" + n + ")", x, () -> x.cut(n), false);
        }
        draftIs("5", x, 1, 2, 3, 4, 5);
    }

    static void alter() {
        Client x = counting(3);
        CHECK.due("alter(0)", x.alter(0, 0x1FF), true);
        CHECK.due("alter(2)", x.alter(2, -256), true);
        draftIs("3", x, 255, 2, 0);
    }

    static void alterThatIsRefused() {
        Client x = counting(3);
        for (int i : new int[] {-1, 3, 119, 120, Integer.MIN_VALUE, Integer.MAX_VALUE}) {
            CHECK.refused("alter(" + i + ")", x, () -> x.alter(i, 9), false);
        }
        draftIs("3", x, 1, 2, 3);
    }

    static void length() {
        for (int length : new int[] {0, 1, 60, 119, 120}) {
            CHECK.due("length " + length, counting(length).length(), length);
        }
    }

    static void at() {
        Client x = counting(120);
        for (int i = 0; i < 120; i++) {
            CHECK.due("at(" + i + ")", x.at(i), i + 1);
        }
    }

    static void atThatThrows() {
        Client x = counting(3);
        for (int i : new int[] {-1, 3, 119, 120, Integer.MIN_VALUE, Integer.MAX_VALUE}) {
            CHECK.refused("at(" + i + ")", x, () -> x.at(i), Check.INDEX);
        }
    }

    static void mix() {
        Client x = counting(3);
        CHECK.due("1, 2, 3 with 0", x.mix(0), 3065164);
        CHECK.due("1, 2, 3 with -1", x.mix(-1), -1363863358);
        x.put(9, 1);
        x.content();
        x.cut(3);
        CHECK.refused("the draft's, not the content's", x, () -> x.mix(0), 3065164);
    }

    static void digest() {
        Client x = new Client().keep("abc");
        x.cut(1);
        CHECK.due("digest", x.digest(), true);
        draftIs("its digest, not the draft's", x, 'a', 0x29, 0x9A, 0x5F, 0x3E);
    }

    static void digestThatIsRefused() {
        Client x = counting(117);
        CHECK.refused("digest behind 117", x, x::digest, false);
        x.cut(116);
        CHECK.due("digest behind 116", x.digest(), true);
        CHECK.due("length", x.length(), 120);
        CHECK.refused("digest behind 120", x, x::digest, false);
    }

    // Promise 9

    private static Paper part() {
        return Paper.of(2, 1, 0, 9, 1, 3, 1);
    }

    static void sign() {
        Client x = part().into(new Client());
        x.sign(4);
        draftIs("the first", x, 2, 1, 0, 9, 1, 3, 1, 1, 4, 0x19, 0x55, 0xB5, 0xDD);
        x.sign(4);
        draftIs("the same again", x, 2, 1, 0, 9, 1, 3, 1, 2, 4, 0x19, 0x55, 0xB5, 0xDD, 4, 0x19, 0x55, 0xB5, 0xDD);
        Client y = part().signed().into(new Client());
        y.sign(4);
        draftIs("behind the number 0", y, 2, 1, 0, 9, 1, 3, 1, 1, 4, 0x19, 0x55, 0xB5, 0xDD);
        Client z = part().signature(9, 1).into(new Client());
        z.sign(4);
        draftIs("behind a wrong one", z, 2, 1, 0, 9, 1, 3, 1, 2, 9, 0, 0, 0, 1, 4, 0x19, 0x55, 0xB5, 0xDD);
    }

    static void signAnswers() {
        Client x = part().into(new Client());
        for (int count = 1; count <= 6; count++) {
            CHECK.due("signature " + count, x.sign(count % 2), count);
            CHECK.due("their number", x.at(7), count);
        }
        CHECK.due("behind the number 0", part().signed().signedIn(new Client(), 0), 1);
    }

    /** That it would have more than 120 bytes can't be, as the longest document has 113. */
    static void signThatThrows() {
        Client x = part().into(new Client());
        for (int key : new int[] {-1, 10, Integer.MIN_VALUE, Integer.MAX_VALUE}) {
            CHECK.refused("key " + key, x, () -> x.sign(key), Check.INDEX);
        }
        Paper[] others = {Paper.of(), Paper.of(2, 1, 0, 9, 1, 3), part().add(1), part().add(0, 0),
            part().signed(0).cut(1), part().signed(0).add(0), part().signed(new int[7]), Paper.of(2, 0, 0, 9, 1, 3, 1)};
        for (Paper other : others) {
            Client y = other.into(new Client());
            CHECK.refused("neither a document nor one without the number", y, () -> y.sign(0), Check.ARGUMENT);
        }
        Client six = part().signed(0, 1, 2, 3, 4, 5).into(new Client());
        CHECK.refused("it has six", six, () -> six.sign(6), Check.UNSUPPORTED);
        Client longest = DocumentEdgesTest.longest().signed(0, 1, 2, 3, 4).into(new Client());
        CHECK.answers("the longest has room for six", () -> longest.sign(5), 6);
        CHECK.due("its length", longest.length(), 113);
    }

    // Promises 10 to 12

    static void content() {
        Client x = SCENE.withTargets(Scene.head(3).add(1).target("a", "abc").add(0).signed(3));
        x.keep("abc");
        x.alter(0, 'x');
        x.cut(2);
        CHECK.due("kept, whatever becomes of the draft", x.install("a"), 3);
        x.content();
        CHECK.refused("another is kept now", x, () -> x.install("a"), Check.UNSUPPORTED);
    }

    static void contentAnswers() {
        for (int length : new int[] {0, 1, 119, 120}) {
            Client x = counting(length);
            CHECK.due("content", x.content(), length);
            CHECK.due("the draft stays", x.length(), length);
        }
    }

    static void tick() {
        Client x = new Client();
        CHECK.due("by 0", x.tick(0), 0);
        CHECK.due("by 10000", x.tick(10000), 10000);
        CHECK.due("by 1", x.tick(1), 10001);
        CHECK.due("by 10000 again", x.tick(10000), 20001);
    }

    static void tickThatThrows() {
        Client x = ticked(new Client(), 7);
        for (int n : new int[] {-1, 10001, Integer.MIN_VALUE, Integer.MAX_VALUE}) {
            CHECK.refused("tick(" + n + ")", x, () -> x.tick(n), Check.ARGUMENT);
        }
        CHECK.due("the clock", x.tick(0), 7);
    }

    static void begin() {
        Paper[] papers = {Scene.root(3, 9).signed(), Scene.root(3, 9).signed(8), Scene.root(3, 9).signature(0, 1)};
        for (Paper paper : papers) {
            Client x = ticked(SCENE.whole(), 60);
            CHECK.due("begin", paper.begunBy(x), "begun");
            CHECK.due("its version", x.trusted(0, false), 3);
            CHECK.due("its end", x.trusted(0, true), 9);
            for (int role = 1; role <= 6; role++) {
                CHECK.due("role " + role, x.trusted(role, false), -1);
            }
        }
    }

    static void beginThatThrows() {
        Paper[] papers = {Paper.of(), Scene.root(3, 9), Scene.root(0, 9).signed(0), Scene.root(3, 9).signed(0).add(0),
            Scene.root(3, 9).signed(0).cut(1), stamp(3, 9).signed(1), Scene.snapshot(), Scene.empty(3).signed(3),
            Scene.empty(4).signed(), Scene.empty(5).signed(), Scene.empty(6).signed()};
        for (Paper paper : papers) {
            SCENE.refuses("malformed, or no root", SCENE::whole, paper, Client::begin, Check.ARGUMENT);
        }
    }

    // Promises 13 and 14

    static void offer() {
        Client x = SCENE.withRoot();
        CHECK.due("a root", Scene.root(V + 1, END).signed(0).offeredTo(x), 0);
        CHECK.due("a stamp", Scene.stamp(Scene.snapshot()).offeredTo(x), 1);
        CHECK.due("a snapshot", Scene.snapshot().offeredTo(x), 2);
        CHECK.due("targets", Scene.empty(3).signed(3).offeredTo(x), 3);
        for (int role = 4; role <= 6; role++) {
            CHECK.due("a delegate", Scene.empty(role).signed().offeredTo(x), role);
        }
        CHECK.due("the draft stays", x.length(), Scene.empty(6).signed().size());
    }

    static void offerOfWhatIsMalformed() {
        Paper[] papers = {Paper.of(), Scene.root(V + 1, END), Scene.root(0, END).signed(0), stamp(V, END),
            Scene.snapshot().add(0), Scene.empty(3).signed(3).cut(1), Scene.empty(7).signed()};
        for (Paper paper : papers) {
            SCENE.refuses("malformed", SCENE::whole, paper, Check.ARGUMENT);
        }
    }

    static void offerWithoutWhatMustBe() {
        SCENE.refuses("a root, none trusted", Client::new, Scene.root(1, END).signed(0), Check.INDEX);
        SCENE.refuses("a stamp, no root", Client::new, stamp(V, END).signed(1), Check.INDEX);
        SCENE.refuses("a snapshot, no stamp", SCENE::withRoot, Scene.snapshot(), Check.INDEX);
        SCENE.refuses("targets, no snapshot", () -> SCENE.withStamp(Scene.snapshot()), Scene.empty(3).signed(3),
                Check.INDEX);
        Supplier<Client> late = () -> ticked(SCENE.whole(), END);
        SCENE.refuses("a stamp, the root has ended", late, stamp(V, END + 1).signed(1), Check.INDEX);
        SCENE.refuses("a snapshot, all has ended", late, Scene.snapshot(), Check.INDEX);
        SCENE.refuses("a delegate, all has ended", late, Scene.empty(4).signed(), Check.INDEX);
        Supplier<Client> without5 = () -> SCENE.withSnapshot(Paper.snapshot(V, END, 3, V, 4, V, 6, V).signed(2));
        SCENE.refuses("no version for role 5", without5, Scene.empty(5).signed(), Check.INDEX);
        SCENE.takes("a version for role 6", without5.get(), Scene.empty(6).signed());
    }

    static void offerOfWhatIsNotSigned() {
        SCENE.refuses("a root", SCENE::whole, Scene.root(V + 1, END).signed(1, 2, 3), Check.STATE);
        SCENE.refuses("a stamp", SCENE::whole, stamp(V, END).signed(0, 2, 3), Check.STATE);
        SCENE.refuses("a snapshot", SCENE::whole, Paper.snapshot(V, END, 3, V).signed(0, 1, 3), Check.STATE);
        SCENE.refuses("targets", SCENE::whole, Scene.empty(3).signed(0, 1, 2), Check.STATE);
    }

    static void offerOfAnotherVersion() {
        SCENE.refuses("a root's version", SCENE::whole, Scene.root(V, END).signed(0), Check.UNSUPPORTED);
        SCENE.refuses("a stamp's version", SCENE::whole, stamp(V - 1, END).signed(1), Check.UNSUPPORTED);
        SCENE.refuses("the version in a stamp", SCENE::whole,
                Paper.head(1, V, END).add(V - 1).four(0).signed(1), Check.UNSUPPORTED);
        SCENE.refuses("a snapshot's version", SCENE::whole,
                Paper.snapshot(V + 1, END, 3, V, 4, V, 5, V, 6, V).signed(2), Check.UNSUPPORTED);
        SCENE.refuses("a snapshot's digest", SCENE::whole,
                Paper.snapshot(V, END + 1, 3, V, 4, V, 5, V, 6, V).signed(2), Check.UNSUPPORTED);
        Paper older = Paper.snapshot(V, END, 3, V, 4, V, 5, V - 1, 6, V).signed(2);
        Supplier<Client> stamped = () -> {
            Client x = SCENE.whole();
            SCENE.offered(x, Scene.stamp(older), 1);
            return x;
        };
        SCENE.refuses("a version in a snapshot", stamped, older, Check.UNSUPPORTED);
        for (int role = 3; role <= 6; role++) {
            SCENE.refuses("the version of role " + role, SCENE::whole,
                    Paper.head(role, V + 1, END).add(0, 0).signed(3), Check.UNSUPPORTED);
        }
    }

    static void offerOfWhatHasEnded() {
        Supplier<Client> at60 = () -> ticked(SCENE.whole(), 60);
        SCENE.refuses("a stamp", at60, stamp(V, 60).signed(1), Check.NO_ELEMENT);
        Paper snapshot = Paper.snapshot(V, 60, 3, V, 4, V, 5, V, 6, V).signed(2);
        Supplier<Client> stamped = () -> {
            Client x = at60.get();
            SCENE.offered(x, Scene.stamp(snapshot), 1);
            return x;
        };
        SCENE.refuses("a snapshot", stamped, snapshot, Check.NO_ELEMENT);
        for (int role = 3; role <= 6; role++) {
            SCENE.refuses("role " + role, at60, Paper.head(role, V, 60).add(0, 0).signed(3), Check.NO_ELEMENT);
        }
        SCENE.takes("but a root may", at60.get(), Scene.root(V + 1, 60).signed(0));
    }

    static void trusted() {
        Client x = SCENE.withRoot(Scene.root(77, 0x1234));
        CHECK.due("a version", x.trusted(0, false), 77);
        CHECK.due("an end", x.trusted(0, true), 0x1234);
        for (int role = 1; role <= 6; role++) {
            CHECK.due("no version of " + role, x.trusted(role, false), TrustedUpdates.NONE);
            CHECK.due("no end of " + role, x.trusted(role, true), TrustedUpdates.NONE);
        }
        SCENE.offered(x, Paper.head(1, 255, 65535).add(9).four(0).signed(1), 1);
        CHECK.due("a stamp's version", x.trusted(1, false), 255);
        CHECK.due("a stamp's end", x.trusted(1, true), 65535);
    }

    static void trustedThatThrows() {
        Client x = SCENE.whole();
        for (int role : new int[] {-1, 7, Integer.MIN_VALUE, Integer.MAX_VALUE}) {
            CHECK.refused("version of " + role, x, () -> x.trusted(role, false), Check.INDEX);
            CHECK.refused("end of " + role, x, () -> x.trusted(role, true), Check.INDEX);
        }
        CHECK.due("version of 6", x.trusted(6, false), V);
    }

    // Promises 15 to 18

    static void seek() {
        Client x = SCENE.whole();
        CHECK.due("a", x.seek(0x61, 1), 3);
        CHECK.due("ba", x.seek(0x6162, 2), 4);
        CHECK.due("ab", x.seek(0x6261, 2), TrustedUpdates.NONE);
        CHECK.due("c", x.seek(0x63, 1), 5);
        CHECK.due("d", x.seek(0x64, 1), 6);
        CHECK.due("d and more above it", x.seek(0x4164, 1), 6);
        CHECK.due("da", x.seek(0x6164, 2), TrustedUpdates.NONE);
    }

    static void seekThatThrows() {
        for (boolean install : new boolean[] {false, true}) {
            Client x = SCENE.whole();
            for (int n : new int[] {-1, 0, 5, 8, Integer.MIN_VALUE, Integer.MAX_VALUE}) {
                CHECK.refused(n + " letters", x, () -> call(install, x, 0x6161616161616161L, n), Check.ARGUMENT);
            }
            CHECK.refused("a big letter", x, () -> call(install, x, 0x4161, 2), Check.ARGUMENT);
            CHECK.refused("before a", x, () -> call(install, x, 0x60, 1), Check.ARGUMENT);
            CHECK.refused("behind z", x, () -> call(install, x, 0x7B, 1), Check.ARGUMENT);
            Client[] unable = {new Client(), SCENE.withRoot(), SCENE.withStamp(Scene.snapshot()),
                SCENE.withSnapshot(), ending(0), ending(1), ending(2), ending(3)};
            for (int i = 0; i < unable.length; i++) {
                Client y = unable[i];
                CHECK.refused("what must hold does not, " + i, y, () -> call(install, y, 0x61, 1), Check.STATE);
            }
            CHECK.answers("all holds", () -> call(install, ending(4), 0x61, 1), 3);
        }
    }

    private static Object call(boolean install, Client x, long w, int n) {
        return install ? x.install(w, n) : x.seek(w, n);
    }

    /** At 60, which is the end of the document of the role, all others go on; TARGETS have "a", which is empty. */
    private static Client ending(int role) {
        int[] ends = {61, 61, 61, 61, 61};
        ends[role] = 60;
        Client x = SCENE.withRoot(Scene.root(V, ends[0]));
        Paper snapshot = Paper.snapshot(V, ends[2], 3, V).signed(2);
        SCENE.offered(x, Paper.stamp(V, ends[1], snapshot).signed(1), 1);
        SCENE.offered(x, snapshot, 2);
        SCENE.offered(x, Paper.head(3, V, ends[3]).add(1).target("a", "").add(0).signed(3), 3);
        return ticked(x, 60);
    }

    static void visits() {
        Client x = SCENE.whole().keep("ba");
        CHECK.due("none yet", x.visits(), 0);
        x.seek("d");
        CHECK.due("of a seek", x.visits(), 3);
        x.install("ba");
        CHECK.due("of an install", x.visits(), 2);
        CHECK.refused("no name", x, () -> x.seek("B"), Check.ARGUMENT);
        CHECK.refused("another content", x, () -> x.install("a"), Check.UNSUPPORTED);
        CHECK.refused("not found", x, () -> x.install("bb"), Check.NO_ELEMENT);
        CHECK.due("still of the install", x.visits(), 2);
        x.seek("bb");
        CHECK.due("of a seek that does not find", x.visits(), 4);
        x.tick(END);
        CHECK.refused("ended", x, () -> x.seek("a"), Check.STATE);
        CHECK.due("still of the seek", x.visits(), 4);
    }

    static void install() {
        Client x = SCENE.whole();
        String[] names = {"a", "ba", "c", "d"};
        for (int i = 0; i < names.length; i++) {
            CHECK.due("install " + names[i], x.keep(names[i]).install(names[i]), 3 + i);
            CHECK.due("installed", x.installed(), i + 1);
        }
    }

    static void installThatThrows() {
        Client x = SCENE.whole().keep("a");
        CHECK.refused("no name", x, () -> x.install("A"), Check.ARGUMENT);
        CHECK.refused("not found", x, () -> x.install("e"), Check.NO_ELEMENT);
        CHECK.refused("another digest", x, () -> x.install("c"), Check.UNSUPPORTED);
        CHECK.refused("another length", x, () -> x.install("ba"), Check.UNSUPPORTED);
        int digest = Paper.mix(new int[] {'x', 'y'}, 0);
        for (int length = 1; length <= 3; length++) {
            Client y = SCENE.withTargets(Scene.head(3).add(1).word("a").add(length).four(digest).add(0).signed(3));
            y.keep("xy");
            if (length == 2) {
                CHECK.answers("length and digest as said", () -> y.install("a"), 3);
            } else {
                CHECK.refused("another length alone", y, () -> y.install("a"), Check.UNSUPPORTED);
            }
        }
        x.tick(END);
        CHECK.refused("ended", x, () -> x.install("a"), Check.STATE);
        CHECK.due("installed", x.installed(), 0);
    }

    static void installed() {
        Client x = SCENE.whole().keep("a");
        CHECK.due("none", x.installed(), 0);
        x.install("a");
        CHECK.due("one", x.installed(), 1);
        x.install("a");
        CHECK.due("the same again", x.installed(), 2);
        CHECK.refused("one that throws", x, () -> x.install("c"), Check.UNSUPPORTED);
        x.seek("a");
        CHECK.due("still two", x.installed(), 2);
        x.keep("c").install("c");
        CHECK.due("another", x.installed(), 3);
    }
}
