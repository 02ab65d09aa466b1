/** A test for each sentence of 'What it is' and of the terms up to what is malformed. */
final class TermSentences {
    private static final Check CHECK = SentencesTest.CHECK;
    private static final Scene SCENE = SentencesTest.SCENE;
    private static final int V = Scene.VERSION;
    private static final int END = Scene.END;

    private TermSentences() {
    }

    private static Paper head(int role) {
        return Scene.head(role);
    }

    private static Paper part() {
        return Paper.of(2, 1, 0, 9, 1, 3, 1);
    }

    private static Paper stamp(int version, int stamped, int digest) {
        return Paper.head(1, version, END).add(stamped).four(digest);
    }

    /** A document or not: offered to a client that trusts nothing it is refused for another reason in each case. */
    private static void is(boolean document, String what, Paper signedPart) {
        Client x = signedPart.signed(0).into(new Client());
        CHECK.refused(what, x, x::offer, document ? Check.INDEX : Check.ARGUMENT);
    }

    private static void right(String what, Paper signedPart) {
        is(true, what, signedPart);
    }

    private static void wrong(String what, Paper signedPart) {
        is(false, what, signedPart);
    }

    private static int four(Client x, int i) {
        return x.at(i) << 24 | x.at(i + 1) << 16 | x.at(i + 2) << 8 | x.at(i + 3);
    }

    // What it is

    static void whatItIs() {
        Client x = SCENE.whole().keep("d");
        CHECK.due("a target of a delegated role", x.install("d"), 6);
        SCENE.takes("a root with another root key", x, Paper.root(V + 1, END, 7, 1, 2, 3).signed(0, 7));
        SCENE.refused("older", x, stamp(V - 1, V, 0).signed(1), Check.UNSUPPORTED);
        x.tick(10);
        SCENE.refused("past its end", x, Paper.head(1, V, 10).add(V).four(0).signed(1), Check.NO_ELEMENT);
        SCENE.refused("not vouched for", x, stamp(V, V, 0).signed(0), Check.STATE);
        x.keep("e");
        CHECK.refused("not what the documents say", x, () -> x.install("d"), Check.UNSUPPORTED);
        CHECK.due("installed", x.installed(), 1);
    }

    static void fiveHundredAndTwelveCalls() {
        Client x = SCENE.whole().keep("c");
        while (x.callsLeft() > 2) {
            CHECK.due("a call between", x.tick(1) > 0, true);
        }
        CHECK.due("the 511th", x.install("c"), 5);
        CHECK.due("the 512th", x.installed(), 1);
    }

    // Keys, the mix, the signature and the digest; the draft, roles and names

    static void keys() {
        for (int key : new int[] {-1, 0, 1, 2, 3, 4, 5, 6, 7, 8, 9, 10, 11, 255}) {
            boolean isKey = key >= 0 && key <= 9;
            CHECK.due("sign with " + key, part().signedIn(new Client(), key), isKey ? (Object) 1 : Check.INDEX);
            if (key >= 0) {
                is(isKey, "a key set with " + key, Paper.head(0, 1, 9).set(1, key).set(1, 0).set(1, 0).set(1, 0));
                Client x = part().signature(key, 0).into(new Client());
                CHECK.refused("a signature of " + key, x, x::offer, isKey ? Check.INDEX : Check.ARGUMENT);
            }
        }
    }

    static void theMix() {
        Client x = new Client();
        CHECK.due("none with 0", x.mix(0), 0);
        CHECK.due("none with 1", x.mix(1), 0x9E3779B9);
        CHECK.due("none with 2", x.mix(2), 0x3C6EF372);
        x.put(255, 1);
        CHECK.due("255 with 1", x.mix(1), 1465075605);
        x.alter(0, 0);
        x.put(255, 1);
        CHECK.due("0, 255 with 7", x.mix(7), 1508710845);
        x.cut(0);
        x.put(1, 1);
        CHECK.due("1 with -1", x.mix(-1), 883624292);
        x.cut(0);
        for (int b = 136; b <= 255; b++) {
            x.put(b, 1);
        }
        CHECK.due("136 .. 255 with 12345", x.mix(12345), 1550598689);
        CHECK.due("136 .. 255 with the least", x.mix(Integer.MIN_VALUE), 898929331);
    }

    static void signatureAndDigest() {
        int[][] signatures = {{0, -341711049}, {4, 425047517}, {9, 456038788}};
        for (int[] pair : signatures) {
            Client x = new Client();
            part().signedIn(x, pair[0]);
            CHECK.due("signature of key " + pair[0], four(x, 9), pair[1]);
        }
        Client x = new Client().keep("abc");
        x.digest();
        CHECK.due("digest of abc", four(x, 3), 697982782);
        x.cut(0);
        x.content();
        x.digest();
        CHECK.due("digest of nothing", four(x, 0), 0);
    }

    /** Contents with one length and one digest are the same to the client, and so are numbers put by hand. */
    static void numbersAlone() {
        Client x = SCENE.withTargets(head(3).add(1).target("a", "wxaa").add(0).signed(3));
        CHECK.due("the content meant", x.keep("wxaa").install("a"), 3);
        CHECK.due("another with its digest", x.keep("tlyz").install("a"), 3);
        x.keep("tlyy");
        CHECK.refused("another digest", x, () -> x.install("a"), Check.UNSUPPORTED);
        Client y = SCENE.withRoot();
        SCENE.takes("a signature put by hand", y,
                Paper.of(1, 5, 3, 232, 5, 0, 0, 0, 0, 1, 1).four(443052792));
    }

    static void theDraft() {
        Client x = new Client();
        for (int i = 0; i < 120; i++) {
            CHECK.due("byte " + i, x.put(37 * i, 1), true);
            CHECK.due("is anything", x.at(i), 37 * i & 255);
        }
        CHECK.refused("byte 120", x, () -> x.put(1, 1), false);
        CHECK.due("length", x.length(), 120);
    }

    static void roles() {
        Client x = SCENE.whole();
        Paper[] papers = {
            Scene.root(V + 1, END).signed(0), Scene.stamp(Scene.snapshot()), Scene.snapshot(),
            Scene.empty(3).signed(3), Scene.empty(4).signed(), Scene.empty(5).signed(), Scene.empty(6).signed(),
        };
        for (int role = 0; role <= 6; role++) {
            CHECK.due("the number of a role", papers[role].bytes()[0], role);
            SCENE.takes("role " + role, x, papers[role]);
        }
        SCENE.refused("role 7", x, Scene.empty(7).signed(), Check.ARGUMENT);
        CHECK.refused("version of 7", x, () -> x.trusted(7, false), Check.INDEX);
    }

    static void names() {
        Client x = SCENE.withTargets(Scene.empty(3).signed(3));
        String[] names = {"a", "z", "az", "mno", "abcd"};
        for (String name : names) {
            CHECK.answers("name " + name, () -> x.seek(name), -1);
            right("a target named " + name, head(3).add(1).target(name, "").add(0));
        }
        String[] others = {"", "A", "a`", "{a", "a a", "abc1", "abcde"};
        for (String other : others) {
            CHECK.refused("no name " + other, x, () -> x.seek(other), Check.ARGUMENT);
            wrong("a target named " + other, head(3).add(1).target(other, "").add(0));
        }
    }

    // A document and its parts

    static void numbersInADocument() {
        Client x = new Client();
        CHECK.due("begin", Paper.of(0, 200, 1, 2, 1, 1, 0, 1, 1, 1, 1, 1, 2, 1, 1, 3, 0).begunBy(x), "begun");
        CHECK.due("a version of one byte", x.trusted(0, false), 200);
        CHECK.due("an end of two bytes", x.trusted(0, true), 258);
        int digest = digestOf(signedSnapshot());
        SCENE.takes("a digest with the lowest first", x, stamp(1, 1, Integer.reverseBytes(digest)).signed(1));
        SCENE.refused("is another", x, signedSnapshot(), Check.UNSUPPORTED);
        SCENE.takes("a digest with the highest first", x, stamp(1, 1, digest).signed(1));
        SCENE.takes("is that of the snapshot", x, signedSnapshot());
        int signature = stamp(1, 1, 0).signatureOf(1);
        SCENE.refused("a signature with the lowest first", x,
                stamp(1, 1, 0).signature(1, Integer.reverseBytes(signature)), Check.STATE);
        SCENE.takes("a signature with the highest first", x, stamp(1, 1, 0).signature(1, signature));
    }

    private static Paper signedSnapshot() {
        return part().signed(2);
    }

    private static int digestOf(Paper paper) {
        return Paper.mix(paper.bytes(), 0);
    }

    static void partsOfADocument() {
        for (int version : new int[] {0, 1, 255}) {
            is(version > 0, "version " + version, Paper.of(1, version, 0, 9, 1, 0, 0, 0, 0));
        }
        wrong("an end of one byte", Paper.of(1, 1, 9, 1, 0, 0, 0, 0));
        wrong("no body", Paper.of(1, 1, 0, 9));
        for (int count = 0; count <= 7; count++) {
            Client x = part().signed(new int[count]).into(new Client());
            CHECK.refused(count + " signatures", x, x::offer, count <= 6 ? Check.INDEX : Check.ARGUMENT);
        }
        int[][] ends = {{}, {1}, {1, 0}, {1, 0, 9, 9, 9}, {1, 0, 9, 9, 9, 9}, {1, 10, 9, 9, 9, 9},
            {1, 0, 9, 9, 9, 9, 9}, {0}, {0, 0}};
        boolean[] right = {false, false, false, false, true, false, false, true, false};
        for (int i = 0; i < ends.length; i++) {
            Client x = part().add(ends[i]).into(new Client());
            CHECK.refused("signatures " + i, x, x::offer, right[i] ? Check.INDEX : Check.ARGUMENT);
        }
    }

    static void whatIsSigned() {
        Client x = SCENE.withRoot();
        Paper paper = stamp(V, V, 0).signed(1, 4);
        int number = paper.size() - 11;
        CHECK.due("the number of signatures", paper.bytes()[number], 2);
        for (int i = 1; i < number; i++) {
            paper.into(x);
            x.alter(i, paper.bytes()[i] ^ 2);
            CHECK.refused("another byte " + i, x, x::offer, Check.STATE);
        }
        for (int i = number + 7; i < paper.size(); i++) {
            paper.into(x);
            x.alter(i, 6);
            CHECK.due("another byte of the signature that does not count", x.offer(), 1);
        }
        Client y = paper.into(SCENE.withRoot());
        y.alter(number, 1);
        y.cut(number + 6);
        CHECK.due("another number of signatures", y.offer(), 1);
    }

    static void signedBy() {
        Paper root = Paper.head(0, V, END).set(1, 0).set(2, 4, 6, 8).set(1, 2).set(1, 3);
        int[][] enough = {{4, 6}, {8, 4}, {6, 6, 8}, {1, 4, 3, 8}, {4, 6, 8}};
        int[][] fewer = {{}, {4}, {8, 8}, {4, 5, 7, 9}, {0, 1, 2, 3}};
        for (int[] keys : enough) {
            SCENE.takes("enough of them", SCENE.withRoot(root), stamp(V, V, 0).signed(keys));
        }
        Client x = SCENE.withRoot(root);
        for (int[] keys : fewer) {
            SCENE.refused("fewer of them", x, stamp(V, V, 0).signed(keys), Check.STATE);
        }
        int six = stamp(V, V, 0).signatureOf(6);
        SCENE.refused("a wrong one of 6", x, stamp(V, V, 0).signed(4).signature(6, six + 1), Check.STATE);
        SCENE.refused("that of 6 under 8", x, stamp(V, V, 0).signed(4).signature(8, six), Check.STATE);
        SCENE.takes("a wrong one and that of 6", x, stamp(V, V, 0).signed(4).signature(6, 0).signature(6, six));
    }

    static void bodyOfRoot() {
        int[][] sets = {{1, 1, 0}, {1, 4, 0, 1, 2, 3}, {4, 4, 6, 7, 8, 9}, {2, 2, 0, 9}};
        int[][] noSets = {{0, 1, 0}, {0, 0}, {1, 0}, {2, 1, 0}, {1, 5, 0, 1, 2, 3, 4}, {5, 4, 0, 1, 2, 3},
            {1, 2, 4, 4}, {1, 2, 4, 3}, {1, 3, 1, 2, 2}};
        for (int at = 0; at < 4; at++) {
            for (int[] set : sets) {
                right("key set " + at, rootWith(at, set));
            }
            for (int[] set : noSets) {
                wrong("no key set " + at, rootWith(at, set));
            }
        }
        wrong("three key sets", Paper.head(0, 1, 9).set(1, 0).set(1, 0).set(1, 0));
        wrong("five key sets", rootWith(0, 1, 1, 0).set(1, 0));
        Client x = SCENE.withRoot();
        SCENE.takes("the second set is for STAMP", x, Scene.stamp(Scene.snapshot()));
        SCENE.takes("the third set is for SNAPSHOT", x, Scene.snapshot());
        SCENE.takes("the fourth set is for TARGETS", x, Scene.empty(3).signed(3));
        SCENE.takes("the first set is for ROOT", x, Scene.root(V + 1, END).signed(0));
    }

    private static Paper rootWith(int at, int... set) {
        Paper paper = Paper.head(0, 1, 9);
        for (int i = 0; i < 4; i++) {
            paper.add(i == at ? set : new int[] {1, 1, 5});
        }
        return paper;
    }

    static void bodyOfStamp() {
        wrong("version 0", stamp(1, 0, 7));
        right("version 1", stamp(1, 1, 7));
        right("version 255", stamp(1, 255, 7));
        wrong("a digest of three bytes", Paper.head(1, 1, 9).add(1, 7, 7, 7));
        wrong("a digest of five bytes", Paper.head(1, 1, 9).add(1, 7, 7, 7, 7, 7));
        Client x = SCENE.withRoot();
        int ofThePart = Paper.mix(part().bytes(), 0);
        SCENE.takes("a stamp with the digest of the signed part", x, stamp(V, 1, ofThePart).signed(1));
        SCENE.refused("that is another", x, signedSnapshot(), Check.UNSUPPORTED);
        SCENE.takes("a stamp with the digest of the whole", x, stamp(V, 1, digestOf(signedSnapshot())).signed(1));
        SCENE.takes("that is it", x, signedSnapshot());
    }

    static void bodyOfSnapshot() {
        int[][] bodies = {{1, 3, 1}, {2, 3, 1, 6, 255}, {3, 3, 1, 4, 1, 6, 1}, {4, 3, 1, 4, 1, 5, 1, 6, 1}};
        int[][] others = {{0}, {0, 3, 1}, {5, 3, 1, 4, 1, 5, 1, 6, 1, 7, 1}, {2, 3, 1, 7, 1}, {2, 2, 1, 3, 1},
            {2, 3, 1, 3, 1}, {3, 3, 1, 5, 1, 4, 1}, {1, 3, 0}, {2, 3, 1, 4, 0}, {1, 4, 1}, {2, 4, 1, 5, 1}, {2, 3, 1},
            {1, 3, 1, 4, 1}};
        for (int[] body : bodies) {
            right(body[0] + " entries", Paper.head(2, 1, 9).add(body));
        }
        for (int i = 0; i < others.length; i++) {
            wrong("no body " + i, Paper.head(2, 1, 9).add(others[i]));
        }
        for (int signatures = 0; signatures <= 6; signatures++) {
            Client x = Paper.head(2, 1, 9).add(0).signed(new int[signatures]).into(new Client());
            CHECK.refused("no entries, though signatures follow", x, x::offer, Check.ARGUMENT);
        }
    }

    static void targetsInABody() {
        String[] names = {"a", "ab", "abc", "abcd", "b"};
        for (int role = 3; role <= 6; role++) {
            for (int count = 0; count <= 5; count++) {
                Paper paper = head(role).add(count);
                for (int i = 0; i < count; i++) {
                    paper.target(names[i], "");
                }
                is(count <= 4, count + " targets of role " + role, paper.add(0));
            }
            wrong("no letters", head(role).add(1).target("", "").add(0));
            wrong("five letters", head(role).add(1).target("abcde", "").add(0));
            wrong("a big letter", head(role).add(1).target("aB", "").add(0));
            right("any length and digest", head(role).add(1).word("ab").add(255).four(-1).add(0));
            wrong("no length", head(role).add(1).word("ab").four(0).add(0));
            String[][] twice = {{"ab", "ab", "b"}, {"ab", "b", "ab"}, {"b", "ab", "ab"}};
            for (String[] three : twice) {
                wrong("a name twice", head(role).add(3).target(three[0], "").target(three[1], "x")
                        .target(three[2], "y").add(0));
            }
        }
    }

    static void delegationsInABody() {
        for (int role = 3; role <= 6; role++) {
            for (int count = 0; count <= 4; count++) {
                Paper paper = head(role).add(0, count);
                for (int i = 0; i < count; i++) {
                    paper.delegation(6 - i, i % 2, 1, i, "");
                }
                is(count <= 3, count + " delegations of role " + role, paper);
            }
            for (int to = 2; to <= 8; to++) {
                is(to >= 4 && to <= 6, "a delegation to " + to, head(role).add(0, 1).delegation(to, 0, 1, 0, ""));
            }
            int[][] twice = {{5, 5, 4}, {5, 4, 5}, {4, 5, 5}};
            for (int[] three : twice) {
                wrong("a role twice", head(role).add(0, 3).delegation(three[0], 0, 1, 0, "a")
                        .delegation(three[1], 1, 1, 1, "b").delegation(three[2], 0, 1, 2, "c"));
            }
            wrong("neither 1 nor 0", head(role).add(0, 1).delegation(5, 2, 1, 0, ""));
            wrong("no key set", head(role).add(0, 1).delegation(5, 0, 2, 0, ""));
            right("a prefix of 3", head(role).add(0, 1).delegation(5, 0, 1, 0, "aaz"));
            wrong("a prefix of 4", head(role).add(0, 1).delegation(5, 0, 1, 0, "aaaz"));
            wrong("a big letter", head(role).add(0, 1).delegation(5, 0, 1, 0, "aZ"));
        }
    }

    static void malformed() {
        Paper[] papers = {
            Scene.root(1, 9).signed(0), stamp(1, 1, 0).signed(0), part().signed(0), Scene.empty(3).signed(0),
            Scene.empty(4).signed(0), Scene.empty(5).signed(0), Scene.empty(6).signed(0),
        };
        for (Paper paper : papers) {
            String what = "role " + paper.bytes()[0];
            Client x = paper.into(new Client());
            CHECK.refused(what, x, x::offer, Check.INDEX);
            x.put(0, 1);
            CHECK.refused(what + " with a byte behind", x, x::offer, Check.ARGUMENT);
            x.cut(paper.size() - 1);
            CHECK.refused(what + " without its last byte", x, x::offer, Check.ARGUMENT);
        }
        Client x = new Client();
        CHECK.refused("nothing", x, x::offer, Check.ARGUMENT);
    }
}
