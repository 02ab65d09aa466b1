import java.util.Arrays;

/**
 * Both sides of each limit of a document's parts. A signed part that is right is signed, and as a
 * document offered (or begun); one that is not right is refused as malformed by all three.
 */
public final class DocumentEdgesTest {
    private static final Check CHECK = new Check("DocumentEdgesTest");

    public static void main(String[] args) {
        roles();
        versions();
        ends();
        numberOfSignatures();
        keysOfSignatures();
        thresholds();
        numbersOfKeys();
        thresholdAgainstNumber();
        keysOfASet();
        keysRise();
        everyKeySetOfARoot();
        fourKeySetsMakeARoot();
        stampedVersions();
        numbersOfEntries();
        rolesOfEntries();
        rolesOfEntriesRise();
        firstEntryIsForTargets();
        versionsOfEntries();
        numbersOfTargets();
        lettersOfNames();
        lengthsOfNames();
        lengthsAndDigestsOfTargets();
        noNameTwice();
        numbersOfDelegations();
        rolesOfDelegations();
        noRoleTwice();
        finalOrNot();
        keySetsOfDelegations();
        lengthsOfPrefixes();
        lettersOfPrefixes();
        delegatesAreLikeTargets();
        nothingIsMissing();
        nothingStandsBehind();
        theLongest();
        everyByteEveryValue();
        CHECK.end();
    }

    // How a signed part is looked at

    private static void right(String what, Paper part) {
        Client x = new Client();
        boolean isRoot = part.bytes()[0] == 0;
        part.into(x);
        CHECK.refused(what + ": offer without signatures' number", x, x::offer, Check.ARGUMENT);
        CHECK.answers(what + ": sign", () -> x.sign(0), 1);
        CHECK.refused(what + ": offer with nothing trusted", x, x::offer, Check.INDEX);
        if (isRoot) {
            CHECK.answers(what + ": begin", x::begin, "begun");
            CHECK.due(what + ": version", x.trusted(0, false), part.bytes()[1]);
        } else {
            CHECK.refused(what + ": begin", x, x::begin, Check.ARGUMENT);
        }
    }

    private static void wrong(String what, Paper part) {
        Client x = new Client();
        Paper bare = Paper.of(part.bytes());
        bare.into(x);
        CHECK.refused(what + ": sign", x, () -> x.sign(0), Check.ARGUMENT);
        for (int signatures = 0; signatures <= 1; signatures++) {
            Paper whole = Paper.of(part.bytes());
            whole.signed(signatures == 0 ? new int[0] : new int[] {0}).into(x);
            CHECK.refused(what + ": sign again", x, () -> x.sign(0), Check.ARGUMENT);
            CHECK.refused(what + ": offer", x, x::offer, Check.ARGUMENT);
            CHECK.refused(what + ": begin", x, x::begin, Check.ARGUMENT);
        }
    }

    private static void is(boolean right, String what, Paper part) {
        if (right) {
            right(what, part);
        } else {
            wrong(what, part);
        }
    }

    private static Paper head(int role) {
        return Paper.head(role, 1, 9);
    }

    private static Paper rootWith(int... lastSet) {
        return head(0).set(1, 0).set(1, 0).set(1, 0).add(lastSet);
    }

    private static Paper targetsWith(int... parts) {
        return head(3).add(parts);
    }

    private static Paper delegationWith(int... parts) {
        return targetsWith(0, 1).add(parts);
    }

    /** A whole body for each role. */
    private static Paper body(Paper head, int role) {
        switch (role) {
            case 0:
                return head.set(1, 0).set(1, 1).set(2, 2, 3).set(1, 4);
            case 1:
                return head.add(1).four(-1);
            case 2:
                return head.add(2, 3, 1, 5, 1);
            default:
                return head.add(1).target("ab", "x").add(1).delegation(5, 1, 1, 2, "a");
        }
    }

    // "ROLES: 0 ROOT, 1 STAMP, 2 SNAPSHOT, 3 TARGETS, 4, 5, 6 DELEGATES"; "the VERSION, not 0; the END, two bytes"

    private static void roles() {
        for (int role = 0; role <= 6; role++) {
            right("role " + role, body(head(role), role));
        }
        for (int role : new int[] {7, 8, 128, 255}) {
            for (int like = 0; like <= 3; like++) {
                wrong("role " + role + " with the body of " + like, body(head(role), like));
            }
        }
        wrong("a root with a stamp's body", body(head(0), 1));
        wrong("a stamp with a root's body", body(head(1), 0));
        wrong("a snapshot with targets' body", body(head(2), 3));
        wrong("targets with a snapshot's body", body(head(3), 2));
    }

    private static void versions() {
        for (int role = 0; role <= 6; role++) {
            wrong("version 0 of role " + role, body(Paper.head(role, 0, 9), role));
            right("version 1 of role " + role, body(Paper.head(role, 1, 9), role));
            right("version 255 of role " + role, body(Paper.head(role, 255, 9), role));
        }
    }

    private static void ends() {
        for (int end : new int[] {0, 1, 255, 256, 65535}) {
            Client x = new Client();
            CHECK.due("begin with end " + end, Scene.root(1, end).signed().begunBy(x), "begun");
            CHECK.due("end " + end, x.trusted(0, true), end);
        }
    }

    // "the number of signatures, at most 6; of each the key and the signature, four bytes"

    private static void numberOfSignatures() {
        for (int count = 0; count <= 6; count++) {
            Client x = new Client();
            Scene.root(1, 9).signed(new int[count]).into(x);
            CHECK.due(count + " signatures", Check.answerOf(x::begin), "begun");
        }
        Client x = new Client();
        Scene.root(1, 9).signed(new int[7]).into(x);
        CHECK.refused("7 signatures: begin", x, x::begin, Check.ARGUMENT);
        CHECK.refused("7 signatures: offer", x, x::offer, Check.ARGUMENT);
        CHECK.refused("7 signatures: sign", x, () -> x.sign(0), Check.ARGUMENT);
        Client y = new Client();
        Scene.root(1, 9).add(255).into(y);
        CHECK.refused("255 signatures said: begin", y, y::begin, Check.ARGUMENT);
        CHECK.refused("255 signatures said: sign", y, () -> y.sign(0), Check.ARGUMENT);
    }

    private static void keysOfSignatures() {
        for (int key : new int[] {0, 9, 10, 255}) {
            for (int before = 0; before <= 5; before += 5) {
                Client x = new Client();
                Scene.root(1, 9).signed(new int[before]).signature(key, 0).into(x);
                if (key <= 9) {
                    CHECK.answers("signature of key " + key, x::begin, "begun");
                } else {
                    CHECK.refused("signature of key " + key, x, x::begin, Check.ARGUMENT);
                    CHECK.refused("sign behind key " + key, x, () -> x.sign(0), Check.ARGUMENT);
                }
            }
        }
    }

    // "a THRESHOLD, not 0, the number of keys, 1 .. 4, not less than the threshold, and the keys, each greater
    // than the one before"; "KEYS are 0 .. 9"

    private static void thresholds() {
        wrong("threshold 0 of 1", rootWith(0, 1, 0));
        right("threshold 1 of 1", rootWith(1, 1, 0));
        wrong("threshold 0 of 4", rootWith(0, 4, 0, 1, 2, 3));
        right("threshold 4 of 4", rootWith(4, 4, 0, 1, 2, 3));
        wrong("threshold 5 of 4", rootWith(5, 4, 0, 1, 2, 3));
        wrong("threshold 255 of 4", rootWith(255, 4, 0, 1, 2, 3));
    }

    private static void numbersOfKeys() {
        wrong("no keys, threshold 0", rootWith(0, 0));
        wrong("no keys, threshold 1", rootWith(1, 0));
        right("1 key", rootWith(1, 1, 9));
        right("4 keys", rootWith(1, 4, 0, 1, 2, 3));
        wrong("5 keys", rootWith(1, 5, 0, 1, 2, 3, 4));
        wrong("5 keys, threshold 5", rootWith(5, 5, 0, 1, 2, 3, 4));
        wrong("255 keys", rootWith(1, 255, 0, 1, 2, 3, 4));
    }

    private static void thresholdAgainstNumber() {
        int[] keys = {0, 1, 2, 3};
        for (int count = 1; count <= 4; count++) {
            for (int threshold = 1; threshold <= 5; threshold++) {
                Paper part = rootWith(threshold, count).add(Arrays.copyOf(keys, count));
                is(threshold <= count, "threshold " + threshold + " of " + count, part);
            }
        }
    }

    private static void keysOfASet() {
        right("key 0", rootWith(1, 1, 0));
        right("key 9", rootWith(1, 1, 9));
        wrong("key 10", rootWith(1, 1, 10));
        wrong("key 255", rootWith(1, 1, 255));
        right("last key 9", rootWith(1, 4, 6, 7, 8, 9));
        wrong("last key 10", rootWith(1, 4, 6, 7, 8, 10));
    }

    private static void keysRise() {
        right("keys 0, 1", rootWith(1, 2, 0, 1));
        wrong("keys 1, 1", rootWith(1, 2, 1, 1));
        wrong("keys 1, 0", rootWith(1, 2, 1, 0));
        wrong("keys 0, 0", rootWith(1, 2, 0, 0));
        right("keys 0, 9", rootWith(1, 2, 0, 9));
        wrong("keys 9, 0", rootWith(1, 2, 9, 0));
        wrong("keys 1, 2, 2", rootWith(1, 3, 1, 2, 2));
        wrong("keys 1, 2, 3, 3", rootWith(1, 4, 1, 2, 3, 3));
        wrong("keys 1, 3, 2, 4", rootWith(1, 4, 1, 3, 2, 4));
        right("keys 1, 2, 3, 4", rootWith(1, 4, 1, 2, 3, 4));
    }

    /** The limits hold for each of a root's sets, wherever it stands. */
    private static void everyKeySetOfARoot() {
        int[][] faulty = {{0, 1, 0}, {1, 0}, {2, 1, 0}, {1, 5, 0, 1, 2, 3, 4}, {1, 2, 3, 3}, {1, 1, 10}};
        for (int at = 0; at < 4; at++) {
            for (int[] set : faulty) {
                wrong("a faulty set " + at, rootWithSet(at, set));
            }
            right("a full set " + at, rootWithSet(at, 4, 4, 0, 1, 8, 9));
            right("a small set " + at, rootWithSet(at, 1, 1, 9));
        }
    }

    private static Paper rootWithSet(int at, int... set) {
        Paper part = head(0);
        for (int i = 0; i < 4; i++) {
            part.add(i == at ? set : new int[] {1, 1, 5});
        }
        return part;
    }

    private static void fourKeySetsMakeARoot() {
        wrong("three sets", head(0).set(1, 1).set(1, 1).set(1, 1));
        right("four sets", head(0).set(1, 1).set(1, 1).set(1, 1).set(1, 1));
        wrong("five sets", head(0).set(1, 1).set(1, 1).set(1, 1).set(1, 1).set(1, 1));
    }

    // "Of STAMP: the snapshot's version, not 0, and its digest, four bytes"

    private static void stampedVersions() {
        wrong("stamped version 0", head(1).add(0).four(5));
        right("stamped version 1", head(1).add(1).four(0));
        right("stamped version 255", head(1).add(255).four(-1));
        wrong("digest of five bytes", head(1).add(1, 9, 9, 9, 9, 9));
    }

    // "Of SNAPSHOT: how many entries, 1 .. 4, of each a role 3 .. 6, each greater than the one before, and a
    // version, not 0; the first one is that for TARGETS."

    private static void numbersOfEntries() {
        wrong("no entries", head(2).add(0));
        wrong("no entries, but one there", head(2).add(0, 3, 1));
        for (int count = 0; count <= 6; count++) {
            Client x = new Client();
            head(2).add(0).signed(new int[count]).into(x);
            CHECK.refused("no entries, " + count + " signatures: offer", x, x::offer, Check.ARGUMENT);
            CHECK.refused("no entries, " + count + " signatures: sign", x, () -> x.sign(0), Check.ARGUMENT);
        }
        right("1 entry", head(2).add(1, 3, 1));
        right("2 entries", head(2).add(2, 3, 1, 4, 1));
        right("3 entries", head(2).add(3, 3, 1, 4, 1, 5, 1));
        right("4 entries", head(2).add(4, 3, 1, 4, 1, 5, 1, 6, 1));
        wrong("5 entries", head(2).add(5, 3, 1, 4, 1, 5, 1, 6, 1, 7, 1));
        wrong("5 entries, one twice", head(2).add(5, 3, 1, 4, 1, 5, 1, 6, 1, 6, 1));
        wrong("fewer than said", head(2).add(3, 3, 1, 4, 1));
        wrong("more than said", head(2).add(1, 3, 1, 4, 1));
        wrong("255 entries", head(2).add(255, 3, 1, 4, 1));
    }

    private static void rolesOfEntries() {
        for (int role = 4; role <= 6; role++) {
            right("an entry for " + role, head(2).add(2, 3, 1, role, 1));
        }
        wrong("an entry for 7", head(2).add(2, 3, 1, 7, 1));
        wrong("an entry for 255", head(2).add(2, 3, 1, 255, 1));
        wrong("an entry for 2", head(2).add(2, 3, 1, 2, 1));
        wrong("an entry for 0", head(2).add(2, 3, 1, 0, 1));
    }

    private static void rolesOfEntriesRise() {
        wrong("3, 3", head(2).add(2, 3, 1, 3, 1));
        wrong("3, 4, 4", head(2).add(3, 3, 1, 4, 1, 4, 1));
        wrong("3, 5, 4", head(2).add(3, 3, 1, 5, 1, 4, 1));
        right("3, 4, 6", head(2).add(3, 3, 1, 4, 1, 6, 1));
        wrong("3, 4, 5, 5", head(2).add(4, 3, 1, 4, 1, 5, 1, 5, 1));
        wrong("3, 4, 6, 5", head(2).add(4, 3, 1, 4, 1, 6, 1, 5, 1));
    }

    private static void firstEntryIsForTargets() {
        right("3 first", head(2).add(1, 3, 1));
        for (int role : new int[] {0, 2, 4, 5, 6, 7}) {
            wrong(role + " alone", head(2).add(1, role, 1));
        }
        wrong("4, 5", head(2).add(2, 4, 1, 5, 1));
        wrong("2, 3", head(2).add(2, 2, 1, 3, 1));
        wrong("4, 3", head(2).add(2, 4, 1, 3, 1));
    }

    private static void versionsOfEntries() {
        for (int at = 0; at < 4; at++) {
            for (int version : new int[] {0, 1, 255}) {
                Paper part = head(2).add(4);
                for (int i = 0; i < 4; i++) {
                    part.add(3 + i, i == at ? version : 7);
                }
                is(version > 0, "version " + version + " in entry " + at, part);
            }
        }
    }

    // "how many TARGETS, at most 4, of each: how many letters its name has, 1 .. 4, these, its LENGTH, and its
    // digest, four bytes; no name twice"; "A NAME is one to four small letters."

    private static void numbersOfTargets() {
        String[] names = {"a", "b", "c", "d", "e"};
        for (int count = 0; count <= 5; count++) {
            Paper part = targetsWith(count);
            for (int i = 0; i < count; i++) {
                part.target(names[i], "");
            }
            is(count <= 4, count + " targets", part.add(0));
        }
        wrong("fewer than said", targetsWith(2).target("a", "").add(0));
        wrong("more than said", targetsWith(1).target("a", "").target("b", "").add(0));
        wrong("255 targets", targetsWith(255).target("a", "").add(0));
        wrong("a delegation without the number of targets", targetsWith(1).delegation(5, 0, 1, 0, ""));
    }

    private static void lettersOfNames() {
        for (int at = 0; at < 4; at++) {
            for (int letter : new int[] {0, 'A', 'Z', '`', 'a', 'm', 'z', '{', 255}) {
                Paper part = targetsWith(1, 4);
                for (int i = 0; i < 4; i++) {
                    part.add(i == at ? letter : 'k');
                }
                is(letter >= 'a' && letter <= 'z', "letter " + letter + " at " + at, part.add(0).four(0).add(0));
            }
        }
    }

    private static void lengthsOfNames() {
        String[] names = {"", "a", "ab", "abc", "abcd", "abcde"};
        for (int count = 0; count <= 5; count++) {
            is(count >= 1 && count <= 4, count + " letters", targetsWith(1).target(names[count], "").add(0));
            is(count >= 1 && count <= 4, count + " letters in the second",
                    targetsWith(2).target("x", "").target(names[count], "").add(0));
        }
        wrong("255 letters", targetsWith(1, 255).add('a', 'a', 'a', 'a').add(0).four(0).add(0));
    }

    private static void lengthsAndDigestsOfTargets() {
        for (int length : new int[] {0, 1, 120, 121, 255}) {
            right("LENGTH " + length, targetsWith(1).word("a").add(length).four(length).add(0));
        }
        wrong("digest of three bytes", targetsWith(1).word("a").add(5, 9, 9, 9));
        right("digest of four bytes", targetsWith(1).word("a").add(5, 9, 9, 9, 9).add(0));
    }

    private static void noNameTwice() {
        wrong("a, a", targetsWith(2).target("a", "x").target("a", "y").add(0));
        right("a, b", targetsWith(2).target("a", "x").target("b", "x").add(0));
        right("a, aa", targetsWith(2).target("a", "").target("aa", "").add(0));
        right("aa, a", targetsWith(2).target("aa", "").target("a", "").add(0));
        wrong("abcd, abcd", targetsWith(2).target("abcd", "").target("abcd", "").add(0));
        right("abcd, abce", targetsWith(2).target("abcd", "").target("abce", "").add(0));
        right("abcd, bbcd", targetsWith(2).target("abcd", "").target("bbcd", "").add(0));
        right("ab, ba", targetsWith(2).target("ab", "").target("ba", "").add(0));
        for (int first = 0; first < 4; first++) {
            for (int second = first + 1; second < 4; second++) {
                Paper part = targetsWith(4);
                String[] names = {"k", "lm", "nop", "qrst"};
                names[second] = names[first];
                for (String name : names) {
                    part.target(name, "");
                }
                wrong("the same name at " + first + " and " + second, part.add(0));
            }
        }
    }

    // "how many DELEGATIONS, at most 3, of each: a role 4 .. 6, no role twice; 1 if it is FINAL, else 0; a key set;
    // how many letters a PREFIX has, at most 3, and these, small ones"

    private static void numbersOfDelegations() {
        for (int count = 0; count <= 3; count++) {
            Paper part = targetsWith(0, count);
            for (int i = 0; i < count; i++) {
                part.delegation(4 + i, 0, 1, 0, "");
            }
            right(count + " delegations", part);
        }
        for (int fourth = 3; fourth <= 7; fourth++) {
            wrong("4 delegations, the fourth to " + fourth, targetsWith(0, 4).delegation(4, 0, 1, 0, "")
                    .delegation(5, 0, 1, 0, "").delegation(6, 0, 1, 0, "").delegation(fourth, 0, 1, 0, ""));
        }
        wrong("fewer than said", targetsWith(0, 2).delegation(4, 0, 1, 0, ""));
        wrong("more than said", targetsWith(0, 1).delegation(4, 0, 1, 0, "").delegation(5, 0, 1, 0, ""));
        wrong("255 delegations", targetsWith(0, 255).delegation(4, 0, 1, 0, ""));
    }

    private static void rolesOfDelegations() {
        for (int role : new int[] {0, 2, 3, 4, 5, 6, 7, 36, 255}) {
            is(role >= 4 && role <= 6, "delegation to " + role, targetsWith(0, 1).delegation(role, 0, 1, 0, ""));
            is(role == 5 || role == 6, "second delegation to " + role, targetsWith(0, 2)
                    .delegation(4, 0, 1, 0, "").delegation(role, 0, 1, 0, ""));
        }
    }

    private static void noRoleTwice() {
        int[][] orders = {{4, 4, 5}, {4, 5, 4}, {5, 4, 4}, {6, 6, 6}, {4, 5, 6}, {6, 5, 4}, {5, 6, 4}};
        for (int[] order : orders) {
            Paper part = targetsWith(0, 3);
            for (int role : order) {
                part.delegation(role, 0, 1, role, "a");
            }
            boolean twice = order[0] == order[1] || order[0] == order[2] || order[1] == order[2];
            is(!twice, "delegations to " + Arrays.toString(order), part);
        }
    }

    private static void finalOrNot() {
        right("not final", targetsWith(0, 1).delegation(4, 0, 1, 0, ""));
        right("final", targetsWith(0, 1).delegation(4, 1, 1, 0, ""));
        for (int last : new int[] {2, 3, 128, 255}) {
            wrong("final " + last, targetsWith(0, 1).delegation(4, last, 1, 0, ""));
        }
    }

    private static void keySetsOfDelegations() {
        right("1 of 1", delegationWith(4, 0, 1, 1, 0, 0));
        wrong("0 of 1", delegationWith(4, 0, 0, 1, 0, 0));
        wrong("2 of 1", delegationWith(4, 0, 2, 1, 0, 0));
        wrong("1 of none", delegationWith(4, 0, 1, 0, 0));
        right("4 of 4", delegationWith(4, 0, 4, 4, 0, 1, 2, 9, 0));
        wrong("1 of 5", delegationWith(4, 0, 1, 5, 0, 1, 2, 3, 4, 0));
        wrong("keys 3, 3", delegationWith(4, 0, 1, 2, 3, 3, 0));
        wrong("keys 3, 2", delegationWith(4, 0, 1, 2, 3, 2, 0));
        right("key 9", delegationWith(4, 0, 1, 1, 9, 0));
        wrong("key 10", delegationWith(4, 0, 1, 1, 10, 0));
        wrong("a second one's threshold 0",
                targetsWith(0, 2).delegation(4, 0, 1, 0, "").delegation(5, 0, 0, 0, ""));
    }

    private static void lengthsOfPrefixes() {
        String[] prefixes = {"", "a", "ab", "abc", "abcd"};
        for (int count = 0; count <= 4; count++) {
            is(count <= 3, "a prefix of " + count, targetsWith(0, 1).delegation(4, 0, 1, 0, prefixes[count]));
            is(count <= 3, "a second prefix of " + count, targetsWith(0, 2).delegation(5, 0, 1, 0, "z")
                    .delegation(4, 0, 1, 0, prefixes[count]));
        }
        wrong("a prefix of 255", delegationWith(4, 0, 1, 1, 0, 255, 'a', 'b'));
    }

    private static void lettersOfPrefixes() {
        for (int at = 0; at < 3; at++) {
            for (int letter : new int[] {0, 'A', 'Z', '`', 'a', 'm', 'z', '{', 255}) {
                Paper part = delegationWith(4, 0, 1, 1, 0, 3);
                for (int i = 0; i < 3; i++) {
                    part.add(i == at ? letter : 'k');
                }
                is(letter >= 'a' && letter <= 'z', "letter " + letter + " of a prefix at " + at, part);
            }
        }
    }

    private static void delegatesAreLikeTargets() {
        for (int role = 4; role <= 6; role++) {
            right("nothing in " + role, head(role).add(0, 0));
            right("a delegation to itself in " + role, head(role).add(0, 1).delegation(role, 1, 1, 0, ""));
            right("four targets in " + role, head(role).add(4).target("a", "").target("b", "")
                    .target("c", "").target("d", "").add(0));
            wrong("five targets in " + role, head(role).add(5).target("a", "").target("b", "")
                    .target("c", "").target("d", "").target("e", "").add(0));
            wrong("a name twice in " + role, head(role).add(2).target("a", "").target("a", "").add(0));
            wrong("a delegation to 3 in " + role, head(role).add(0, 1).delegation(3, 0, 1, 0, ""));
        }
    }

    // "The draft is MALFORMED, if it is no document, or bytes stand behind it."

    /** However much of a document's end is left out, it is no document; without signatures it can be signed. */
    private static void nothingIsMissing() {
        for (int role = 0; role <= 6; role++) {
            Paper part = body(head(role), role);
            int signedSize = part.size();
            part.signed(0, 1);
            for (int n = 0; n < part.size(); n++) {
                Client x = new Client();
                part.into(x);
                x.cut(n);
                String what = "the first " + n + " bytes of role " + role;
                CHECK.refused(what + ": offer", x, x::offer, Check.ARGUMENT);
                CHECK.refused(what + ": begin", x, x::begin, Check.ARGUMENT);
                if (n == signedSize) {
                    CHECK.answers(what + ": sign", () -> x.sign(0), 1);
                } else {
                    CHECK.refused(what + ": sign", x, () -> x.sign(0), Check.ARGUMENT);
                }
            }
        }
    }

    private static void nothingStandsBehind() {
        for (int role = 0; role <= 6; role++) {
            for (int more : new int[] {0, 1, 9, 255}) {
                Client x = new Client();
                body(head(role), role).signed(0).add(more).into(x);
                CHECK.refused("a byte behind role " + role + ": offer", x, x::offer, Check.ARGUMENT);
                CHECK.refused("a byte behind role " + role + ": begin", x, x::begin, Check.ARGUMENT);
                CHECK.refused("a byte behind role " + role + ": sign", x, () -> x.sign(0), Check.ARGUMENT);
                x.cut(x.length() - 1);
                CHECK.refused("without it: offer", x, x::offer, Check.INDEX);
            }
        }
        Client x = new Client();
        body(head(0), 0).signed(0).into(x);
        x.put(0, 8);
        CHECK.refused("eight bytes behind", x, x::begin, Check.ARGUMENT);
    }

    /** Every part as long as it may be, with six signatures. */
    private static void theLongest() {
        Client x = new Client();
        longest().signed(0, 1, 2, 3, 4, 9).into(x);
        CHECK.due("its length", x.length(), 113);
        CHECK.refused("offer of the longest", x, x::offer, Check.INDEX);
        x.put(0, 7);
        CHECK.refused("bytes behind it up to 120", x, x::offer, Check.ARGUMENT);
    }

    static Paper longest() {
        Paper part = Paper.head(3, 255, 65535).add(4).target("aaaa", "").target("bbbb", "")
                .target("cccc", "").target("dddd", "").add(3);
        for (int role = 4; role <= 6; role++) {
            part.add(role, 1).set(4, 6, 7, 8, 9).word("xyz");
        }
        return part;
    }

    /** Each byte of some documents with each value, against the model's reading of it. */
    private static void everyByteEveryValue() {
        for (int role = 0; role <= 3; role++) {
            byteByByte(body(head(role), role).signed(0, 9));
        }
        byteByByte(longest().signed(0));
    }

    private static void byteByByte(Paper paper) {
        for (int i = 0; i < paper.size(); i++) {
            for (int from = 0; from < 256; from += 128) {
                Client x = paper.into(new Client());
                Model model = new Model();
                for (int b : paper.bytes()) {
                    model.put(b, 1);
                }
                String before = x.sight();
                for (int v = from; v < from + 128; v++) {
                    x.alter(i, v);
                    model.alter(i, v);
                    CHECK.answers("byte " + i + " is " + v, x::offer, Check.answerOf(model::offer));
                }
                x.alter(i, paper.bytes()[i]);
                CHECK.due("byte " + i + ": what can be seen behind all of them", x.sight(), before);
            }
        }
    }
}
