import java.util.Arrays;
import java.util.function.Supplier;

/** Both sides of each boundary in promises 15 to 18: seek, visits, install, installed. */
public final class SeekEdgesTest {
    private static final Check CHECK = new Check("SeekEdgesTest");
    private static final Scene SCENE = new Scene(CHECK);
    private static final int V = Scene.VERSION;
    private static final int END = Scene.END;

    public static void main(String[] args) {
        namesHaveOneToFourLetters();
        namesHaveSmallLetters();
        namesHaveTheLowestByteFirst();
        rootStampAndSnapshotAreTrusted();
        rootStampAndSnapshotHaveNotEnded();
        targetsAreFresh();
        theWholeNameIsMeant();
        eachTargetIsFound();
        ownTargetsComeFirst();
        delegationsComeInOrder();
        prefixes();
        whatStandsInSignaturesIsNoDelegation();
        noRoleIsVisitedTwice();
        allFourAreVisited();
        delegatesAreFresh();
        delegatesAreSignedByTheDelegationsKeys();
        whoDelegatesNamesTheKeys();
        finalEndsAll();
        finalBelowEndsAll();
        finalThatIsNotVisitedEndsNothing();
        visitsOfTheLatestThatDidNotThrow();
        seekLeavesTheRest();
        installErrors();
        installLengths();
        installDigests();
        installWhatIsFoundFirst();
        installedCounts();
        theFirstNamed();
        CHECK.end();
    }

    private static Client ticked(Client x, int n) {
        x.tick(n);
        return x;
    }

    private static void found(Client x, String name, int role, int visits) {
        CHECK.answers("seek " + name, () -> x.seek(name), role);
        CHECK.due("visits for " + name, x.visits(), visits);
    }

    private static Paper head(int role) {
        return Scene.head(role);
    }

    // Promise 15: "IllegalArgumentException when that is no name"; "A NAME is one to four small letters."

    private static void namesHaveOneToFourLetters() {
        Client x = SCENE.whole();
        x.seek("c");
        long letters = Client.w("aaaaaaaa");
        for (int n : new int[] {0, -1, 5, 8, 9, 257, Integer.MIN_VALUE, Integer.MAX_VALUE}) {
            CHECK.refused(n + " letters", x, () -> x.seek(letters, n), Check.ARGUMENT);
        }
        Client y = SCENE.whole();
        CHECK.answers("1 letter", () -> y.seek(letters, 1), 3);
        for (int n = 2; n <= 4; n++) {
            int count = n;
            CHECK.answers(n + " letters", () -> y.seek(letters, count), -1);
            CHECK.refused("install of " + n + " letters", y, () -> y.install(letters, count), Check.NO_ELEMENT);
        }
        CHECK.refused("install of no letters", y, () -> y.install(letters, 0), Check.ARGUMENT);
        CHECK.refused("install of 5 letters", y, () -> y.install(letters, 5), Check.ARGUMENT);
    }

    private static void namesHaveSmallLetters() {
        for (int at = 0; at < 4; at++) {
            for (int letter : new int[] {0, 'A', 'Z', '`', 'a', 'z', '{', 0xE1, 255}) {
                Client x = SCENE.whole();
                x.seek("c");
                long w = Client.w("kkkk") & ~(255L << 8 * at) | (long) letter << 8 * at;
                String what = "letter " + letter + " at " + at;
                if (letter >= 'a' && letter <= 'z') {
                    CHECK.answers(what, () -> x.seek(w, 4), -1);
                    CHECK.due(what + ": visits", x.visits(), 3);
                } else {
                    CHECK.refused(what + ": seek", x, () -> x.seek(w, 4), Check.ARGUMENT);
                    CHECK.refused(what + ": install", x, () -> x.install(w, 4), Check.ARGUMENT);
                    int shorter = at;
                    if (at == 0) {
                        CHECK.refused("without it", x, () -> x.seek(w, shorter), Check.ARGUMENT);
                    } else {
                        CHECK.answers("without it", () -> x.seek(w, shorter), -1);
                    }
                }
            }
        }
    }

    /** "SEEKS the name of n letters, the lowest byte of w first" */
    private static void namesHaveTheLowestByteFirst() {
        Client x = SCENE.withTargets(head(3).add(2).target("ab", "").target("abcd", "").add(0).signed(3));
        CHECK.answers("ab", () -> x.seek(0x6261L, 2), 3);
        CHECK.answers("ba", () -> x.seek(0x6162L, 2), -1);
        CHECK.answers("abcd", () -> x.seek(0x64636261L, 4), 3);
        CHECK.answers("dcba", () -> x.seek(0x61626364L, 4), -1);
        CHECK.answers("ab with more above", () -> x.seek(0xFFFFFFFFFFFF6261L, 2), 3);
        CHECK.answers("abcd with more above", () -> x.seek(Long.MIN_VALUE | 0x64636261L, 4), 3);
    }

    // "IllegalStateException when root, stamp or snapshot is not trusted or has ended, or the TARGETS are not fresh"

    private static void cannotSeek(String what, Client x) {
        CHECK.refused(what + ": seek", x, () -> x.seek("a"), Check.STATE);
        CHECK.refused(what + ": install", x, () -> x.install("a"), Check.STATE);
    }

    private static void rootStampAndSnapshotAreTrusted() {
        cannotSeek("nothing", new Client());
        cannotSeek("root alone", SCENE.withRoot());
        cannotSeek("root and stamp", SCENE.withStamp(Scene.snapshot()));
        cannotSeek("no targets", SCENE.withSnapshot());
        Client delegateAlone = SCENE.withSnapshot();
        SCENE.offered(delegateAlone, head(4).add(1).target("a", "").add(0).signed(4), 4);
        cannotSeek("a delegate, no targets", delegateAlone);
        found(SCENE.withTargets(Scene.empty(3).signed(3)), "a", -1, 1);
        Client x = SCENE.whole();
        CHECK.due("other stamp key", Paper.root(V + 1, END, 0, 9, 2, 3).signed(0).offeredTo(x), 0);
        cannotSeek("stamp and snapshot are gone", x);
        SCENE.offered(x, Paper.stamp(V, END, Scene.snapshot()).signed(9), 1);
        cannotSeek("the snapshot is gone", x);
        SCENE.offered(x, Scene.snapshot(), 2);
        found(x, "a", 3, 1);
        found(x, "d", 6, 3);
        Client y = SCENE.whole();
        CHECK.due("begin", Scene.root(V, END).signed().begunBy(y), "begun");
        cannotSeek("begun anew", y);
    }

    /** A client whose document of the role ends at 50, the others later; TARGETS have "a". */
    private static Client endingAt50(int role) {
        int[] ends = {END, END, END, END};
        ends[role] = 50;
        Client x = SCENE.withRoot(Scene.root(V, ends[0]));
        Paper snapshot = Paper.snapshot(V, ends[2], 3, V).signed(2);
        SCENE.offered(x, Paper.stamp(V, ends[1], snapshot).signed(1), 1);
        SCENE.offered(x, snapshot, 2);
        SCENE.offered(x, Paper.head(3, V, ends[3]).add(1).target("a", "").add(0).signed(3), 3);
        return x;
    }

    private static void rootStampAndSnapshotHaveNotEnded() {
        for (int role = 0; role <= 2; role++) {
            Client x = ticked(endingAt50(role), 49);
            found(x, "a", 3, 1);
            CHECK.answers("install before the end of role " + role, () -> x.keep("").install("a"), 3);
            x.tick(1);
            cannotSeek("at the end of role " + role, x);
            x.tick(1);
            cannotSeek("behind the end of role " + role, x);
        }
        Client x = ticked(endingAt50(0), 50);
        CHECK.due("a new root", Scene.root(V + 1, 51).signed(0).offeredTo(x), 0);
        found(x, "a", 3, 1);
        CHECK.due("one that has ended", Scene.root(V + 2, 50).signed(0).offeredTo(x), 0);
        cannotSeek("a root that has ended already", x);
    }

    // "FRESH, if it is trusted, has not ended, and its version is that which the trusted snapshot says for the role"

    private static void snapshotAnew(Client x, int version, int... entries) {
        Paper snapshot = Paper.snapshot(version, END, entries).signed(2);
        SCENE.offered(x, Paper.stamp(version, END, snapshot).signed(1), 1);
        SCENE.offered(x, snapshot, 2);
    }

    private static void targetsAreFresh() {
        Client x = ticked(endingAt50(3), 49);
        found(x, "a", 3, 1);
        x.tick(1);
        cannotSeek("at the targets' end", x);
        Client y = endingAt50(3);
        snapshotAnew(y, V + 1, 3, V);
        found(y, "a", 3, 1);
        snapshotAnew(y, V + 2, 3, V + 1);
        cannotSeek("the snapshot says one more", y);
        CHECK.due("trusted still", y.trusted(3, false), V);
        SCENE.offered(y, Paper.head(3, V + 1, END).add(1).target("b", "").add(0).signed(3), 3);
        found(y, "a", -1, 1);
        found(y, "b", 3, 1);
        CHECK.due("other stamp key", Paper.root(V + 1, END, 0, 9, 2, 3).signed(0).offeredTo(y), 0);
        Paper older = Paper.snapshot(V, END, 3, V).signed(2);
        SCENE.offered(y, Paper.stamp(V, END, older).signed(9), 1);
        SCENE.offered(y, older, 2);
        cannotSeek("the snapshot says one less", y);
        Client z = SCENE.whole();
        CHECK.due("another targets key", Paper.root(V + 1, END, 0, 1, 2, 9).signed(0).offeredTo(z), 0);
        found(z, "a", 3, 1);
    }

    // "if its document has a target of the name, that is found"

    private static void theWholeNameIsMeant() {
        Client x = SCENE.withTargets(head(3).add(1).target("abc", "").add(0).signed(3));
        found(x, "abc", 3, 1);
        for (String name : new String[] {"a", "ab", "abcd", "bbc", "acc", "abd", "c", "bc"}) {
            found(x, name, -1, 1);
        }
    }

    private static void eachTargetIsFound() {
        String[] names = {"a", "ab", "zzzz", "abc"};
        for (int count = 0; count <= 4; count++) {
            Paper paper = head(3).add(count);
            for (int i = 0; i < count; i++) {
                paper.target(names[i], "");
            }
            Client x = SCENE.withTargets(paper.add(0).signed(3));
            for (int i = 0; i < 4; i++) {
                found(x, names[i], i < count ? 3 : -1, 1);
            }
        }
    }

    private static Client withTwoDelegates(Paper targets, Paper four, Paper five) {
        Client x = SCENE.withTargets(targets.signed(3));
        SCENE.offered(x, four.signed(4), 4);
        SCENE.offered(x, five.signed(5), 5);
        return x;
    }

    private static void ownTargetsComeFirst() {
        Client x = withTwoDelegates(
                head(3).add(1).target("a", "").add(1).delegation(4, 1, 1, 4, ""),
                head(4).add(2).target("a", "").target("b", "").add(1).delegation(5, 1, 1, 5, ""),
                head(5).add(3).target("a", "").target("b", "").target("c", "").add(0));
        found(x, "a", 3, 1);
        found(x, "b", 4, 2);
        found(x, "c", 5, 3);
        found(x, "d", -1, 3);
    }

    // "else for each of its delegations in order"

    private static void delegationsComeInOrder() {
        Client x = withTwoDelegates(
                head(3).add(0, 2).delegation(4, 0, 1, 4, "").delegation(5, 0, 1, 5, ""),
                head(4).add(2).target("a", "").target("b", "").add(0),
                head(5).add(2).target("a", "").target("c", "").add(0));
        found(x, "a", 4, 2);
        found(x, "b", 4, 2);
        found(x, "c", 5, 3);
        found(x, "d", -1, 3);
        Client y = withTwoDelegates(
                head(3).add(0, 2).delegation(5, 0, 1, 5, "").delegation(4, 0, 1, 4, ""),
                head(4).add(2).target("a", "").target("b", "").add(0),
                head(5).add(2).target("a", "").target("c", "").add(0));
        found(y, "a", 5, 2);
        found(y, "b", 4, 3);
        found(y, "c", 5, 2);
        Client z = withTwoDelegates(
                head(3).add(0, 2).delegation(4, 0, 1, 4, "").delegation(6, 0, 1, 6, ""),
                head(4).add(0, 1).delegation(5, 0, 1, 5, ""),
                head(5).add(1).target("a", "").add(0));
        SCENE.offered(z, head(6).add(2).target("a", "").target("b", "").add(0).signed(6), 6);
        found(z, "a", 5, 3);
        found(z, "b", 6, 4);
    }

    // "whose prefix the name begins with"

    private static void prefixes() {
        String[] prefixes = {"", "a", "ab", "abc"};
        String[] names = {"a", "ab", "abc", "abcd", "b", "ba", "aa", "abb", "acc", "zabc"};
        for (String prefix : prefixes) {
            Client x = SCENE.withTargets(head(3).add(0, 1).delegation(4, 0, 1, 4, prefix).signed(3));
            SCENE.offered(x, Scene.empty(4).signed(4), 4);
            for (String name : names) {
                found(x, name, -1, name.startsWith(prefix) ? 2 : 1);
            }
        }
        Client x = withTwoDelegates(
                head(3).add(0, 2).delegation(4, 0, 1, 4, "abc").delegation(5, 0, 1, 5, "z"),
                head(4).add(2).target("abcd", "").target("z", "").add(0),
                head(5).add(2).target("abcd", "").target("z", "").add(0));
        found(x, "abcd", 4, 2);
        found(x, "z", 5, 2);
        found(x, "a", -1, 1);
        for (int n = 1; n <= 4; n++) {
            int count = n;
            CHECK.answers("abcd cut to " + n, () -> x.seek(Client.w("abcd"), count), n == 4 ? 4 : -1);
            CHECK.due("what stands above n is not in the name", x.visits(), n >= 3 ? 2 : 1);
        }
    }

    /** The signatures' bytes may be anything, a delegation or a target among them, but do not count as such. */
    private static void whatStandsInSignaturesIsNoDelegation() {
        Paper targets = head(3).add(0, 0).signature(0, 0x01010400).signed(3, 3, 3);
        Client x = SCENE.withTargets(targets);
        SCENE.offered(x, head(4).add(1).target("a", "").add(0).signed(4), 4);
        CHECK.due("four signatures", targets.bytes()[6], 4);
        found(x, "a", -1, 1);
    }

    // "whose role was not visited yet"

    private static void noRoleIsVisitedTwice() {
        Client x = withTwoDelegates(
                head(3).add(0, 2).delegation(4, 0, 1, 4, "").delegation(5, 0, 1, 5, ""),
                head(4).add(0, 2).delegation(4, 1, 1, 4, "").delegation(5, 0, 1, 5, ""),
                head(5).add(0, 2).delegation(4, 1, 1, 4, "").delegation(5, 1, 1, 5, ""));
        found(x, "a", -1, 3);
        SCENE.offered(x, head(5).add(1).target("a", "").add(1).delegation(4, 1, 1, 4, "").signed(5), 5);
        found(x, "a", 5, 3);
        found(x, "b", -1, 3);
        found(x, "a", 5, 3);
    }

    private static void allFourAreVisited() {
        Client x = withTwoDelegates(
                head(3).add(0, 1).delegation(6, 0, 1, 6, ""),
                head(4).add(1).target("a", "").add(3).delegation(6, 0, 1, 6, "").delegation(5, 0, 1, 5, "")
                        .delegation(4, 0, 1, 4, ""),
                head(5).add(0, 1).delegation(4, 0, 1, 4, ""));
        SCENE.offered(x, head(6).add(0, 1).delegation(5, 0, 1, 5, "").signed(6), 6);
        found(x, "a", 4, 4);
        found(x, "b", -1, 4);
    }

    // "and is fresh"

    private static Client withDelegateTo50() {
        Client x = SCENE.withTargets(head(3).add(0, 1).delegation(4, 0, 1, 4, "").signed(3));
        SCENE.offered(x, Paper.head(4, V, 50).add(1).target("a", "").add(0).signed(4), 4);
        return x;
    }

    private static void delegatesAreFresh() {
        found(SCENE.withTargets(head(3).add(0, 1).delegation(4, 0, 1, 4, "").signed(3)), "a", -1, 1);
        Client x = ticked(withDelegateTo50(), 49);
        found(x, "a", 4, 2);
        x.tick(1);
        found(x, "a", -1, 1);
        CHECK.refused("install from one that has ended", x, () -> x.install("a"), Check.NO_ELEMENT);
        Client y = withDelegateTo50();
        snapshotAnew(y, V + 1, 3, V, 4, V, 5, V, 6, V + 1);
        found(y, "a", 4, 2);
        snapshotAnew(y, V + 2, 3, V, 4, V + 1, 5, V, 6, V + 1);
        found(y, "a", -1, 1);
        SCENE.offered(y, Paper.head(4, V + 1, 50).add(1).target("a", "").add(0).signed(4), 4);
        found(y, "a", 4, 2);
        CHECK.due("other snapshot key", Paper.root(V + 1, END, 0, 1, 9, 3).signed(0).offeredTo(y), 0);
        Paper without = Paper.snapshot(V, END, 3, V).signed(9);
        SCENE.offered(y, Paper.stamp(V, END, without).signed(1), 1);
        SCENE.offered(y, without, 2);
        found(y, "a", -1, 1);
        CHECK.due("trusted, but not in the snapshot", y.trusted(4, false), V + 1);
    }

    // "and signed by the threshold of the delegation's keys"

    private static void delegatesAreSignedByTheDelegationsKeys() {
        int[][] fewer = {{}, {4}, {6}, {5, 5, 5}, {0, 1, 2, 3, 4}};
        int[][] enough = {{4, 5}, {6, 5}, {4, 6}, {4, 5, 6}, {5, 5, 3, 6}};
        for (int[] keys : fewer) {
            Client x = withTwoOfThree();
            SCENE.offered(x, head(4).add(1).target("a", "").add(0).signed(keys), 4);
            found(x, "a", -1, 1);
        }
        for (int[] keys : enough) {
            Client x = withTwoOfThree();
            SCENE.offered(x, head(4).add(1).target("a", "").add(0).signed(keys), 4);
            found(x, "a", 4, 2);
        }
        int[] keys = {2, 4, 7, 9};
        for (int threshold = 1; threshold <= 4; threshold++) {
            Client x = SCENE.withTargets(head(3).add(0, 1, 4, 0).set(threshold, keys).word("").signed(3));
            for (int signers = 0; signers <= 4; signers++) {
                int[] some = Arrays.copyOfRange(keys, 4 - signers, 4);
                SCENE.offered(x, head(4).add(1).target("a", "").add(0).signed(some), 4);
                found(x, "a", signers >= threshold ? 4 : -1, signers >= threshold ? 2 : 1);
            }
        }
        Client x = SCENE.withTargets(head(3).add(0, 1).delegation(4, 0, 1, 4, "").signed(3));
        Paper paper = head(4).add(1).target("a", "").add(0);
        SCENE.offered(x, paper.signature(4, paper.signatureOf(4) + 1), 4);
        found(x, "a", -1, 1);
    }

    /** TARGETS delegate all to role 4, to two of the keys 4, 5, 6. */
    private static Client withTwoOfThree() {
        return SCENE.withTargets(head(3).add(0, 1, 4, 0).set(2, 4, 5, 6).word("").signed(3));
    }

    private static void whoDelegatesNamesTheKeys() {
        Client x = withTwoDelegates(
                head(3).add(0, 2).delegation(5, 0, 1, 9, "").delegation(4, 0, 1, 4, ""),
                head(4).add(0, 1).delegation(5, 0, 1, 5, ""),
                head(5).add(1).target("a", "").add(0));
        found(x, "a", 5, 3);
        SCENE.offered(x, head(5).add(1).target("a", "").add(0).signed(9), 5);
        found(x, "a", 5, 2);
        SCENE.offered(x, head(5).add(1).target("a", "").add(0).signed(3), 5);
        found(x, "a", -1, 2);
    }

    // "if not, and the delegation is final, all is over, and it is not found"

    private static void finalEndsAll() {
        for (int last = 0; last <= 1; last++) {
            Client x = withTwoDelegates(
                    head(3).add(0, 2).delegation(4, last, 1, 4, "").delegation(5, 0, 1, 5, ""),
                    head(4).add(1).target("a", "").add(0),
                    head(5).add(2).target("a", "").target("b", "").add(0));
            found(x, "a", 4, 2);
            found(x, "b", last == 1 ? -1 : 5, last == 1 ? 2 : 3);
            found(x, "c", -1, last == 1 ? 2 : 3);
        }
        Client x = withTwoDelegates(
                head(3).add(0, 2).delegation(4, 0, 1, 4, "").delegation(5, 1, 1, 5, ""),
                head(4).add(0, 0), head(5).add(1).target("a", "").add(0));
        found(x, "a", 5, 3);
        found(x, "b", -1, 3);
    }

    private static void finalBelowEndsAll() {
        for (int last = 0; last <= 1; last++) {
            Client x = withTwoDelegates(
                    head(3).add(0, 2).delegation(4, 0, 1, 4, "").delegation(6, 0, 1, 6, ""),
                    head(4).add(0, 1).delegation(5, last, 1, 5, ""),
                    head(5).add(1).target("a", "").add(0));
            SCENE.offered(x, head(6).add(2).target("a", "").target("b", "").add(0).signed(6), 6);
            found(x, "a", 5, 3);
            found(x, "b", last == 1 ? -1 : 6, last == 1 ? 3 : 4);
        }
        Client x = withTwoDelegates(
                head(3).add(0, 2).delegation(4, 1, 1, 4, "").delegation(6, 0, 1, 6, ""),
                head(4).add(0, 1).delegation(5, 0, 1, 5, ""),
                head(5).add(1).target("a", "").add(0));
        SCENE.offered(x, head(6).add(1).target("b", "").add(0).signed(6), 6);
        found(x, "a", 5, 3);
        found(x, "b", -1, 3);
    }

    private static void finalThatIsNotVisitedEndsNothing() {
        Paper five = head(5).add(1).target("a", "").add(0).signed(5);
        Client untrusted = SCENE.withTargets(firstFinal("").signed(3));
        SCENE.offered(untrusted, five, 5);
        found(untrusted, "a", 5, 2);
        Client badlySigned = withTwoDelegates(firstFinal(""), head(4).add(0, 0), five);
        found(badlySigned, "a", -1, 2);
        SCENE.offered(badlySigned, head(4).add(0, 0).signed(7), 4);
        found(badlySigned, "a", 5, 2);
        Client elsewhere = withTwoDelegates(firstFinal("b"), head(4).add(0, 0), five);
        found(elsewhere, "a", 5, 2);
        found(elsewhere, "b", -1, 2);
        Client ended = withTwoDelegates(firstFinal(""), Paper.head(4, V, 50).add(0, 0), five);
        found(ticked(ended, 49), "a", -1, 2);
        found(ticked(ended, 1), "a", 5, 2);
        Client visited = withTwoDelegates(
                head(3).add(0, 2).delegation(4, 0, 1, 4, "").delegation(5, 0, 1, 5, ""),
                head(4).add(0, 1).delegation(4, 1, 1, 4, ""), five);
        found(visited, "a", 5, 3);
    }

    /** TARGETS with a final delegation to role 4 and one more to role 5. */
    private static Paper firstFinal(String prefix) {
        return head(3).add(0, 2).delegation(4, 1, 1, 4, prefix).delegation(5, 0, 1, 5, "");
    }

    // Promise 16: "How many roles the latest seek() or install() that did not throw visited."

    private static void visitsOfTheLatestThatDidNotThrow() {
        Client x = SCENE.whole().keep("c");
        CHECK.due("none yet", x.visits(), 0);
        CHECK.refused("no name before the first", x, () -> x.seek("A"), Check.ARGUMENT);
        CHECK.refused("install of another content before the first", x, () -> x.install("a"), Check.UNSUPPORTED);
        found(x, "a", 3, 1);
        CHECK.refused("install not found, three visited", x, () -> x.install("e"), Check.NO_ELEMENT);
        CHECK.refused("install of another content, three visited", x, () -> x.install("d"), Check.UNSUPPORTED);
        CHECK.answers("install, two visited", () -> x.install("c"), 5);
        CHECK.due("visits of install", x.visits(), 2);
        found(x, "bb", -1, 4);
        CHECK.refused("no name", x, () -> x.install("A"), Check.ARGUMENT);
        x.tick(END);
        CHECK.refused("ended", x, () -> x.seek("a"), Check.STATE);
        CHECK.due("still", x.visits(), 4);
        CHECK.due("begin", Scene.root(V, END).signed().begunBy(x), "begun");
        CHECK.due("begin leaves it", x.visits(), 4);
    }

    /** A seek changes nothing but the visits. */
    private static void seekLeavesTheRest() {
        Client x = SCENE.whole().keep("c");
        x.seek("d");
        CHECK.refused("found again", x, () -> x.seek("d"), 6);
        x.seek("e");
        CHECK.refused("not found again", x, () -> x.seek("e"), -1);
        CHECK.due("nothing installed", x.installed(), 0);
    }

    // Promise 17: "NoSuchElementException when it is not found; UnsupportedOperationException when length or digest of
    // the content are other ones."

    private static void installErrors() {
        Client x = SCENE.whole().keep("d");
        CHECK.refused("not found", x, () -> x.install("e"), Check.NO_ELEMENT);
        CHECK.refused("another content", x, () -> x.install("c"), Check.UNSUPPORTED);
        CHECK.refused("no name", x, () -> x.install("E"), Check.ARGUMENT);
        CHECK.answers("as said", () -> x.install("d"), 6);
        x.tick(END - 1);
        CHECK.answers("one before the end", () -> x.install("d"), 6);
        x.tick(1);
        CHECK.refused("at the end", x, () -> x.install("d"), Check.STATE);
        CHECK.due("installed", x.installed(), 2);
    }

    private static void installLengths() {
        int digest = Paper.mix(new int[] {'x', 'y', 'z'}, 0);
        for (int length : new int[] {0, 2, 3, 4, 255}) {
            Client x = SCENE.withTargets(head(3).add(1).word("a").add(length).four(digest).add(0).signed(3));
            x.keep("xyz");
            if (length == 3) {
                CHECK.answers("length 3 of 3", () -> x.install("a"), 3);
                CHECK.due("installed", x.installed(), 1);
            } else {
                CHECK.refused("length 3 of " + length, x, () -> x.install("a"), Check.UNSUPPORTED);
            }
        }
        Client none = SCENE.withTargets(head(3).add(1).target("a", "").add(0).signed(3));
        CHECK.answers("no content for an empty target", () -> none.install("a"), 3);
        none.put(1, 1);
        CHECK.answers("the draft is not the content", () -> none.install("a"), 3);
        none.content();
        CHECK.refused("one byte for an empty target", none, () -> none.install("a"), Check.UNSUPPORTED);
        String most = "x".repeat(120);
        Client full = SCENE.withTargets(head(3).add(1).target("a", most).add(0).signed(3));
        full.keep(most);
        CHECK.answers("120 bytes", () -> full.install("a"), 3);
        full.cut(119);
        full.content();
        CHECK.refused("119 bytes", full, () -> full.install("a"), Check.UNSUPPORTED);
        Client zeros = SCENE.withTargets(head(3).add(1).word("a").add(0).four(0).add(0).signed(3));
        Paper.of(0).into(zeros).content();
        CHECK.refused("a zero byte has the digest 0, too, but another length", zeros, () -> zeros.install("a"),
                Check.UNSUPPORTED);
    }

    private static void installDigests() {
        int digest = Paper.mix(new int[] {'x'}, 0);
        for (int bit = 0; bit < 32; bit++) {
            Client x = SCENE.withTargets(head(3).add(1).word("a").add(1).four(digest ^ 1 << bit).add(0).signed(3));
            x.keep("x");
            CHECK.refused("bit " + bit + " is wrong", x, () -> x.install("a"), Check.UNSUPPORTED);
        }
        Client x = SCENE.withTargets(head(3).add(1).word("a").add(1).four(digest).add(0).signed(3));
        CHECK.answers("all bits are right", () -> x.keep("x").install("a"), 3);
    }

    /** The first document that has the name decides, though another one has what would fit. */
    private static void installWhatIsFoundFirst() {
        Supplier<Client> scene = () -> withTwoDelegates(
                head(3).add(1).target("a", "x").add(2).delegation(4, 0, 1, 4, "").delegation(5, 0, 1, 5, ""),
                head(4).add(3).target("a", "y").target("b", "x").target("d", "").add(0),
                head(5).add(2).target("a", "y").target("b", "y").add(0));
        Client x = scene.get().keep("y");
        CHECK.refused("TARGETS say x", x, () -> x.install("a"), Check.UNSUPPORTED);
        CHECK.refused("role 4 says x", x, () -> x.install("b"), Check.UNSUPPORTED);
        x.keep("x");
        CHECK.answers("x as a", () -> x.install("a"), 3);
        CHECK.due("visits", x.visits(), 1);
        CHECK.answers("x as b", () -> x.install("b"), 4);
        CHECK.due("visits", x.visits(), 2);
        CHECK.refused("x as d", x, () -> x.install("d"), Check.UNSUPPORTED);
        CHECK.due("installed", x.installed(), 2);
    }

    // Promise 18: "How many targets were installed."

    private static void installedCounts() {
        Client x = SCENE.whole().keep("a");
        for (int i = 1; i <= 150; i++) {
            CHECK.due("install " + i, x.install("a"), 3);
            CHECK.due("installed " + i, x.installed(), i);
        }
        x.keep("c");
        CHECK.due("another", x.install("c"), 5);
        CHECK.due("installed", x.installed(), 151);
        x.seek("a");
        CHECK.due("a seek installs nothing", x.installed(), 151);
        CHECK.due("begin", Scene.root(V, END).signed().begunBy(x), "begun");
        CHECK.due("begin takes nothing back", x.installed(), 151);
    }

    // "where several exceptions that a call names fit, it is the one that it names first"

    private static void theFirstNamed() {
        Client none = new Client();
        CHECK.refused("seek: no name before nothing trusted", none, () -> none.seek("A"), Check.ARGUMENT);
        CHECK.refused("install: no name before nothing trusted", none, () -> none.install("A"), Check.ARGUMENT);
        CHECK.refused("install: nothing trusted before not found", none, () -> none.install("a"), Check.STATE);
        Client x = ticked(SCENE.whole().keep("x"), END);
        CHECK.refused("install: ended before another content", x, () -> x.install("a"), Check.STATE);
        CHECK.refused("install: ended before not found", x, () -> x.install("e"), Check.STATE);
        CHECK.refused("install: no name before ended", x, () -> x.install("abcde"), Check.ARGUMENT);
        Client y = SCENE.whole().keep("x");
        CHECK.refused("install: not found before another content", y, () -> y.install("e"), Check.NO_ELEMENT);
        CHECK.refused("install: no name before another content", y, () -> y.install(""), Check.ARGUMENT);
    }
}
