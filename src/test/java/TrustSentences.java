import java.util.function.Supplier;

/** A test for each sentence of the terms from the client on: to offer, fresh, to seek, calls that throw. */
final class TrustSentences {
    private static final Check CHECK = SentencesTest.CHECK;
    private static final Scene SCENE = SentencesTest.SCENE;
    private static final int V = Scene.VERSION;
    private static final int END = Scene.END;

    private TrustSentences() {
    }

    private static Paper head(int role) {
        return Scene.head(role);
    }

    private static Paper stamp(int version, int stamped) {
        return Paper.head(1, version, END).add(stamped).four(0);
    }

    private static Client ticked(Client x, int n) {
        x.tick(n);
        return x;
    }

    private static void found(Client x, String name, int role, int visits) {
        CHECK.answers("seek " + name, () -> x.seek(name), role);
        CHECK.due("visits for " + name, x.visits(), visits);
    }

    /** One name in the document of a delegate, and nothing else. */
    private static Paper only(int role, String name) {
        return head(role).add(1).target(name, "").add(0);
    }

    // The client, its clock, and when a document has ended

    static void clockAndTrust() {
        Client x = new Client();
        CHECK.due("the clock", x.tick(0), 0);
        for (int role = 0; role <= 6; role++) {
            CHECK.due("version of " + role, x.trusted(role, false), -1);
            CHECK.due("end of " + role, x.trusted(role, true), -1);
        }
        Client y = SCENE.withRoot();
        SCENE.takes("one stamp", y, stamp(V, V).signed(1));
        SCENE.takes("another for it", y, stamp(V + 2, V).signed(1));
        SCENE.refused("the first is trusted no more", y, stamp(V, V).signed(1), Check.UNSUPPORTED);
    }

    static void ended() {
        for (int end : new int[] {0, 1, 2, 256, 10000}) {
            for (int clock : new int[] {0, 1, 2, 255, 256, 257, 9999, 10000}) {
                Client x = ticked(SCENE.withRoot(Scene.root(V, end)), clock);
                Paper paper = Paper.head(1, V, 65535).add(V).four(0).signed(1);
                CHECK.due("a root with end " + end + " at " + clock, paper.offeredTo(x),
                        end > clock ? (Object) 1 : Check.INDEX);
            }
        }
    }

    // To offer

    static void inPlaceOfTheOne() {
        Client x = SCENE.whole();
        found(x, "d", 6, 3);
        SCENE.takes("another document for role 6", x, only(6, "e").signed(6));
        found(x, "d", -1, 3);
        found(x, "e", 6, 3);
        SCENE.refused("one that it refuses", x, Paper.head(6, V, 0).add(1).target("d", "").add(0).signed(6),
                Check.NO_ELEMENT);
        found(x, "d", -1, 3);
        found(x, "e", 6, 3);
    }

    static void root() {
        Supplier<Client> scene = () -> SCENE.withRoot(rootOfTwo(V, 0, 4, 5));
        int[][] fewer = {{}, {0, 7, 8}, {7, 8}, {0, 4}, {0, 4, 7}, {0, 0, 7, 8}, {0, 4, 8, 8}, {6, 9, 7, 8}};
        int[][] enough = {{0, 4, 7, 8}, {9, 8, 5, 4}, {0, 4, 5, 7, 8, 9}};
        for (int[] keys : fewer) {
            SCENE.refuses("fewer than two of each", scene, rootOfTwo(V + 1, 7, 8, 9).signed(keys), Check.STATE);
        }
        for (int[] keys : enough) {
            SCENE.takes("two of each", scene.get(), rootOfTwo(V + 1, 7, 8, 9).signed(keys));
        }
        for (int version : new int[] {1, V - 1, V, V + 1, V + 2, 255}) {
            Paper paper = Scene.root(version, END).signed(0);
            if (version == V + 1) {
                SCENE.takes("one more", SCENE.withRoot(), paper);
            } else {
                SCENE.refuses("version " + version, SCENE::withRoot, paper, Check.UNSUPPORTED);
            }
        }
    }

    /** Two of these keys for ROOT. */
    private static Paper rootOfTwo(int version, int... keys) {
        return Paper.head(0, version, END).set(2, keys).set(1, 1).set(1, 2).set(1, 3);
    }

    static void rootWithOtherKeys() {
        dropped(false, Scene.root(V + 1, END));
        dropped(false, Paper.head(0, V + 1, END).set(1, 0, 9).set(1, 1).set(1, 2).set(2, 3, 4));
        dropped(true, Paper.root(V + 1, END, 0, 9, 2, 3));
        dropped(true, Paper.root(V + 1, END, 0, 1, 9, 3));
        dropped(true, Paper.head(0, V + 1, END).set(1, 0).set(1, 1, 9).set(1, 2).set(1, 3));
        dropped(true, Paper.head(0, V + 1, END).set(1, 0).set(1, 1).set(1, 2, 9).set(1, 3));
        stampDropped(false, Paper.head(0, V + 1, END).set(1, 0).set(1, 1, 9).set(1, 2, 4).set(1, 3));
        stampDropped(true, Paper.head(0, V + 1, END).set(1, 0).set(2, 1, 9).set(1, 2, 4).set(1, 3));
        stampDropped(true, Paper.head(0, V + 1, END).set(1, 0).set(1, 1, 8).set(1, 2, 4).set(1, 3));
        stampDropped(true, Paper.head(0, V + 1, END).set(1, 0).set(1, 1, 9).set(2, 2, 4).set(1, 3));
        stampDropped(true, Paper.head(0, V + 1, END).set(1, 0).set(1, 1, 9).set(1, 2, 5).set(1, 3));
    }

    /** Behind a root with the STAMP keys 1 and 9 and the SNAPSHOT keys 2 and 4, of which one is enough. */
    private static void stampDropped(boolean gone, Paper root) {
        Client x = SCENE.withRoot(Paper.head(0, V, END).set(1, 0).set(1, 1, 9).set(1, 2, 4).set(1, 3));
        SCENE.offered(x, stamp(V, V).signed(1), 1);
        CHECK.due("a new root", root.signed(0).offeredTo(x), 0);
        CHECK.due("the stamp", x.trusted(1, false), gone ? -1 : V);
    }

    private static void dropped(boolean gone, Paper root) {
        Client x = SCENE.whole();
        CHECK.due("a new root", root.signed(0).offeredTo(x), 0);
        for (int role = 1; role <= 6; role++) {
            CHECK.due("version of " + role, x.trusted(role, false), gone && role <= 2 ? -1 : V);
            CHECK.due("end of " + role, x.trusted(role, true), gone && role <= 2 ? -1 : END);
        }
    }

    static void rootThatHasEnded() {
        Client x = ticked(SCENE.withRoot(), 60);
        SCENE.takes("an end that is past", x, Scene.root(V + 1, 59).signed(0));
        SCENE.takes("an end that is now, behind one that has ended", x, Scene.root(V + 2, 60).signed(0));
        SCENE.takes("an end to come, behind one that has ended", x, Scene.root(V + 3, 61).signed(0));
    }

    static void whatThereMustBe() {
        Paper[] papers = {stamp(V, V).signed(1), Scene.snapshot(), Scene.empty(3).signed(3), Scene.empty(4).signed(),
            Scene.empty(5).signed(), Scene.empty(6).signed()};
        for (Paper paper : papers) {
            int role = paper.bytes()[0];
            SCENE.refuses("no root for " + role, Client::new, paper, Check.INDEX);
            SCENE.takes("all there for " + role, ending(100, 100, 100, 99), paper);
            SCENE.refuses("an ended root for " + role, () -> ending(99, 100, 100, 99), paper, Check.INDEX);
            if (role == 2) {
                SCENE.refuses("no stamp", SCENE::withRoot, paper, Check.INDEX);
                SCENE.refuses("an ended stamp", () -> ending(100, 99, 100, 99), paper, Check.INDEX);
            } else {
                SCENE.takes("an ended stamp does no harm to " + role, ending(100, 99, 100, 99), paper);
            }
            if (role >= 3) {
                SCENE.refuses("no snapshot for " + role, () -> SCENE.withStamp(Scene.snapshot()), paper, Check.INDEX);
                SCENE.refuses("an ended snapshot for " + role, () -> ending(100, 100, 99, 99), paper, Check.INDEX);
            }
        }
        SCENE.takes("a stamp with a root alone", SCENE.withRoot(), papers[0]);
        SCENE.takes("a snapshot with root and stamp", SCENE.withStamp(Scene.snapshot()), papers[1]);
    }

    /** Root, stamp and snapshot with these ends; the stamp tells of the usual snapshot in the end. */
    private static Client ending(int root, int stamp, int snapshot, int clock) {
        Client x = SCENE.withRoot(Scene.root(V, root));
        Paper first = Paper.snapshot(V, snapshot, 3, V, 4, V, 5, V, 6, V).signed(2);
        SCENE.offered(x, Paper.stamp(V, END, first).signed(1), 1);
        SCENE.offered(x, first, 2);
        SCENE.offered(x, Paper.stamp(V, stamp, Scene.snapshot()).signed(1), 1);
        return ticked(x, clock);
    }

    static void stampSigned() {
        Client x = SCENE.withRoot(Paper.head(0, V, END).set(1, 0).set(2, 1, 4).set(1, 2).set(1, 3));
        SCENE.refused("none", x, stamp(V, V).signed(), Check.STATE);
        SCENE.refused("one of two", x, stamp(V, V).signed(1, 1), Check.STATE);
        SCENE.refused("keys of others", x, stamp(V, V).signed(0, 2, 3), Check.STATE);
        SCENE.takes("two", x, stamp(V, V).signed(4, 1));
    }

    static void stampVersions() {
        Client x = SCENE.withRoot();
        SCENE.takes("the first one", x, stamp(V, V).signed(1));
        SCENE.refused("a version less", x, stamp(V - 1, V + 1).signed(1), Check.UNSUPPORTED);
        SCENE.refused("a snapshot's version less", x, stamp(V + 1, V - 1).signed(1), Check.UNSUPPORTED);
        SCENE.takes("both the same", x, stamp(V, V).signed(1));
        SCENE.takes("a version more", x, stamp(V + 1, V).signed(1));
        SCENE.takes("a snapshot's version more", x, stamp(V + 1, 255).signed(1));
        SCENE.refused("less than that", x, stamp(255, 254).signed(1), Check.UNSUPPORTED);
    }

    static void stampEnd() {
        Client x = ticked(SCENE.withRoot(), 60);
        for (int end : new int[] {0, 59, 60}) {
            SCENE.refused("end " + end, x, Paper.head(1, V, end).add(V).four(0).signed(1), Check.NO_ELEMENT);
        }
        SCENE.takes("end 61", x, Paper.head(1, V, 61).add(V).four(0).signed(1));
    }

    static void snapshotSigned() {
        int[][] fewer = {{}, {2, 2}, {0, 1, 3}};
        for (int[] keys : fewer) {
            Client x = withStampOf(Paper.snapshot(V, END, 3, V).signed(keys));
            SCENE.refused("not both", x, Paper.snapshot(V, END, 3, V).signed(keys), Check.STATE);
        }
        Paper both = Paper.snapshot(V, END, 3, V).signed(2, 4);
        SCENE.takes("both", withStampOf(both), both);
    }

    /** The root asks for the keys 2 and 4. */
    private static Client withStampOf(Paper snapshot) {
        Client x = SCENE.withRoot(Paper.head(0, V, END).set(1, 0).set(1, 1).set(2, 2, 4).set(1, 3));
        SCENE.offered(x, Paper.stamp(V, END, snapshot).signed(1), 1);
        return x;
    }

    static void snapshotAsStamped() {
        Client x = SCENE.withRoot();
        int digest = Paper.mix(Scene.snapshot().bytes(), 0);
        SCENE.offered(x, Paper.head(1, V, END).add(V - 1).four(digest).signed(1), 1);
        SCENE.refused("another version", x, Scene.snapshot(), Check.UNSUPPORTED);
        SCENE.offered(x, Paper.head(1, V, END).add(V).four(digest + 1).signed(1), 1);
        SCENE.refused("another digest", x, Scene.snapshot(), Check.UNSUPPORTED);
        SCENE.offered(x, Paper.head(1, V, END).add(V).four(digest).signed(1), 1);
        SCENE.refused("another end", x, Paper.snapshot(V, END + 1, 3, V, 4, V, 5, V, 6, V).signed(2),
                Check.UNSUPPORTED);
        SCENE.takes("version and digest as said", x, Scene.snapshot());
        SCENE.offered(x, Paper.head(1, V, END).add(V + 1).four(digest).signed(1), 1);
        SCENE.refused("another version than now said", x, Scene.snapshot(), Check.UNSUPPORTED);
    }

    static void snapshotVersions() {
        int[][] less = {{3, V - 1, 4, V, 5, V, 6, V}, {3, V, 4, V - 1, 5, V, 6, V}, {3, V, 4, V, 5, V - 1, 6, V},
            {3, V, 4, V, 5, V, 6, V - 1}, {3, V, 4, V, 5, V}, {3, V, 5, V, 6, V}, {3, 255}};
        for (int[] entries : less) {
            Client x = SCENE.withSnapshot();
            Paper paper = Paper.snapshot(V + 1, END, entries).signed(2);
            SCENE.offered(x, Paper.stamp(V + 1, END, paper).signed(1), 1);
            SCENE.refused("a version less, or none", x, paper, Check.UNSUPPORTED);
        }
        Client x = SCENE.withSnapshot(Paper.snapshot(V, END, 3, V, 5, V).signed(2));
        Paper more = Paper.snapshot(V, END, 3, V, 4, 1, 5, V + 1, 6, 255).signed(2);
        SCENE.offered(x, Scene.stamp(more), 1);
        SCENE.takes("not less, and roles that were not there", x, more);
    }

    static void snapshotEnd() {
        for (int end : new int[] {0, 59, 60, 61}) {
            Paper paper = Paper.snapshot(V, end, 3, V).signed(2);
            Client x = ticked(SCENE.withStamp(paper), 60);
            if (end <= 60) {
                SCENE.refused("end " + end, x, paper, Check.NO_ELEMENT);
            } else {
                SCENE.takes("end " + end, x, paper);
            }
        }
    }

    static void targetsSigned() {
        Client x = SCENE.withRoot(Paper.head(0, V, END).set(1, 0).set(1, 1).set(1, 2).set(2, 3, 4));
        SCENE.offered(x, Scene.stamp(Scene.snapshot()), 1);
        SCENE.offered(x, Scene.snapshot(), 2);
        SCENE.refused("none", x, Scene.empty(3).signed(), Check.STATE);
        SCENE.refused("one of two", x, Scene.empty(3).signed(4, 4), Check.STATE);
        SCENE.refused("keys of others", x, Scene.empty(3).signed(0, 1, 2), Check.STATE);
        SCENE.takes("two", x, Scene.empty(3).signed(3, 4));
        for (int role = 4; role <= 6; role++) {
            SCENE.takes("a delegate without any", x, Scene.empty(role).signed());
            SCENE.takes("a delegate with a wrong one", x, Scene.empty(role).signature(9, 9));
        }
        delegatesAndTheRootsSignatures();
    }

    /** A root's signatures that look like more key sets are none: no delegate has keys there. */
    private static void delegatesAndTheRootsSignatures() {
        Client x = new Client();
        CHECK.due("begin", Scene.root(V, END).signature(1, 0x02010103).begunBy(x), "begun");
        SCENE.offered(x, Scene.stamp(Scene.snapshot()), 1);
        SCENE.offered(x, Scene.snapshot(), 2);
        for (int role = 4; role <= 6; role++) {
            SCENE.takes("a delegate without any", x, Scene.empty(role).signed());
        }
    }

    static void targetsVersion() {
        Client x = SCENE.withSnapshot(Paper.snapshot(V, END, 3, 1, 4, 20, 5, 254, 6, 255).signed(2));
        int[] said = {1, 20, 254, 255};
        for (int role = 3; role <= 6; role++) {
            for (int version = said[role - 3] - 1; version <= said[role - 3] + 1; version++) {
                if (version >= 1 && version <= 255) {
                    CHECK.due("role " + role + " with " + version,
                            Paper.head(role, version, END).add(0, 0).signed(3).offeredTo(x),
                            version == said[role - 3] ? (Object) role : Check.UNSUPPORTED);
                }
            }
            CHECK.due("trusted", x.trusted(role, false), said[role - 3]);
        }
        versionsAreInTheEntriesAlone();
    }

    /** The end of a snapshot, with the number of its entries behind it, may look like an entry. */
    private static void versionsAreInTheEntriesAlone() {
        for (int role = 3; role <= 6; role++) {
            Client x = SCENE.withSnapshot(Paper.snapshot(V, 0x0400 + role, 3, V).signed(2));
            CHECK.due("role " + role + " with version 1",
                    Paper.head(role, 1, END).add(0, 0).signed(3).offeredTo(x),
                    role == 3 ? Check.UNSUPPORTED : Check.INDEX);
            SCENE.takes("the version of the entry", x, Scene.empty(3).signed(3));
        }
    }

    static void targetsEnd() {
        for (int role = 3; role <= 6; role++) {
            Client x = ticked(SCENE.withSnapshot(), 60);
            for (int end : new int[] {0, 59, 60}) {
                SCENE.refused("end " + end, x, Paper.head(role, V, end).add(0, 0).signed(3), Check.NO_ELEMENT);
            }
            SCENE.takes("end 61", x, Paper.head(role, V, 61).add(0, 0).signed(3));
        }
    }

    /** Keys for TARGETS that are others now do not undo what the old ones signed, nor does a root's end. */
    static void newRootChangesNoMore() {
        Client x = SCENE.whole();
        SCENE.takes("other keys for ROOT and TARGETS", x, Paper.root(V + 1, END, 8, 1, 2, 9).signed(0, 8));
        found(x, "a", 3, 1);
        found(x, "d", 6, 3);
        SCENE.takes("one that has ended", x, Paper.root(V + 2, 0, 8, 1, 2, 9).signed(8));
        SCENE.takes("and one that has not", x, Paper.root(V + 3, END, 8, 1, 2, 9).signed(8));
        found(x, "d", 6, 3);
        CHECK.due("other keys for STAMP", Paper.root(V + 4, END, 8, 7, 2, 9).signed(8).offeredTo(x), 0);
        for (int role = 3; role <= 6; role++) {
            CHECK.due("trusted still", x.trusted(role, false), V);
        }
        SCENE.takes("a stamp with the new key", x, Paper.stamp(V, END, Scene.snapshot()).signed(7));
        SCENE.takes("the snapshot again", x, Scene.snapshot());
        found(x, "d", 6, 3);
    }

    // Fresh; to seek

    static void fresh() {
        Client x = SCENE.withTargets(head(3).add(1).target("t", "").add(1).delegation(4, 0, 1, 4, "").signed(3));
        found(x, "a", -1, 1);
        SCENE.offered(x, Paper.head(4, V, 60).add(1).target("a", "").add(0).signed(4), 4);
        found(ticked(x, 59), "a", 4, 2);
        found(ticked(x, 1), "a", -1, 1);
        SCENE.offered(x, only(4, "a").signed(4), 4);
        found(x, "a", 4, 2);
        snapshotAnew(x, 3, V, 4, V + 1, 5, V, 6, V);
        found(x, "a", -1, 1);
        SCENE.offered(x, Paper.head(4, V + 1, END).add(1).target("a", "").add(0).signed(4), 4);
        found(x, "a", 4, 2);
        snapshotAnew(x, 3, V + 1, 4, V + 1, 5, V, 6, V);
        CHECK.refused("TARGETS of another version", x, () -> x.seek("t"), Check.STATE);
        SCENE.offered(x, Paper.head(3, V + 1, 70).add(1).target("t", "").add(0).signed(3), 3);
        found(ticked(x, 9), "t", 3, 1);
        x.tick(1);
        CHECK.refused("TARGETS that have ended", x, () -> x.seek("t"), Check.STATE);
    }

    private static void snapshotAnew(Client x, int... entries) {
        Paper snapshot = Paper.snapshot(V, END, entries).signed(2);
        SCENE.offered(x, Scene.stamp(snapshot), 1);
        SCENE.offered(x, snapshot, 2);
    }

    static void targetsAreVisited() {
        Client x = SCENE.withTargets(Scene.empty(3).signed(3));
        for (int role = 4; role <= 6; role++) {
            SCENE.offered(x, only(role, "a").signed(role), role);
        }
        found(x, "a", -1, 1);
    }

    static void ownTargetIsFound() {
        Client x = SCENE.withTargets(head(3).add(4).target("a", "").target("ab", "").target("zz", "")
                .target("abcd", "").add(1).delegation(4, 1, 1, 4, "").signed(3));
        SCENE.offered(x, head(4).add(3).target("a", "").target("b", "").target("zz", "").add(0).signed(4), 4);
        for (String name : new String[] {"a", "ab", "zz", "abcd"}) {
            found(x, name, 3, 1);
        }
        found(x, "b", 4, 2);
        for (String name : new String[] {"z", "abc", "aa", "zzz"}) {
            found(x, name, -1, 2);
        }
    }

    static void delegationsAreFollowed() {
        Client x = SCENE.withTargets(head(3).add(0, 3).delegation(6, 0, 1, 6, "ab").delegation(4, 0, 1, 4, "")
                .delegation(5, 0, 1, 5, "a").signed(3));
        SCENE.offered(x, head(4).add(1).target("abc", "").add(1).delegation(5, 0, 1, 9, "").signed(4), 4);
        SCENE.offered(x, head(5).add(2).target("abc", "").target("b", "").add(2).delegation(4, 0, 1, 4, "")
                .delegation(5, 0, 1, 5, "").signed(5), 5);
        found(x, "abc", 4, 2);
        SCENE.offered(x, only(6, "abc").signed(6), 6);
        found(x, "abc", 6, 2);
        found(x, "abd", -1, 4);
        found(x, "ac", -1, 3);
        CHECK.due("a, though bc stands above it", x.seek(Client.w("abc"), 1), -1);
        CHECK.due("visits for a", x.visits(), 3);
        found(x, "b", -1, 2);
        SCENE.offered(x, head(5).add(2).target("abc", "").target("b", "").add(0).signed(9), 5);
        found(x, "b", 5, 3);
        SCENE.offered(x, only(6, "abc").signed(5), 6);
        found(x, "abc", 4, 2);
        noRoleTwice();
        downToTheLast();
    }

    /** A role that was visited already is left out, so that a final delegation to it ends nothing. */
    private static void noRoleTwice() {
        Client x = SCENE.withTargets(head(3).add(0, 2).delegation(4, 0, 1, 4, "").delegation(5, 0, 1, 5, "").signed(3));
        SCENE.offered(x, head(4).add(0, 1).delegation(4, 1, 1, 4, "").signed(4), 4);
        SCENE.offered(x, only(5, "b").signed(5), 5);
        found(x, "b", 5, 3);
        SCENE.offered(x, head(4).add(0, 1).delegation(5, 0, 1, 9, "").signed(4), 4);
        found(x, "b", 5, 3);
    }

    private static void downToTheLast() {
        Client x = SCENE.withTargets(head(3).add(0, 1).delegation(6, 0, 1, 6, "").signed(3));
        SCENE.offered(x, head(6).add(0, 1).delegation(4, 0, 1, 4, "a").signed(6), 6);
        SCENE.offered(x, head(4).add(0, 1).delegation(5, 0, 1, 5, "ab").signed(4), 4);
        SCENE.offered(x, only(5, "abc").signed(5), 5);
        found(x, "abc", 5, 4);
        found(x, "ac", -1, 3);
        found(x, "b", -1, 2);
    }

    static void finalDelegation() {
        Paper five = only(5, "b").signed(5);
        for (int last = 0; last <= 1; last++) {
            Client x = SCENE.withTargets(head(3).add(0, 2).delegation(4, last, 1, 4, "")
                    .delegation(5, 0, 1, 5, "").signed(3));
            SCENE.offered(x, five, 5);
            found(x, "b", 5, 2);
            SCENE.offered(x, only(4, "a").signed(4), 4);
            found(x, "a", 4, 2);
            found(x, "b", last == 1 ? -1 : 5, last == 1 ? 2 : 3);
            SCENE.offered(x, head(4).add(0, 1).delegation(6, 1, 1, 6, "").signed(4), 4);
            SCENE.offered(x, only(6, "a").signed(6), 6);
            found(x, "a", 6, 3);
            found(x, "b", -1, 3);
        }
    }

    static void callsThatThrow() {
        draftCallsThatThrow();
        offersThatThrow();
        seeksThatThrow();
    }

    private static void draftCallsThatThrow() {
        Client x = SCENE.whole().keep("c");
        x.seek("c");
        CHECK.refused("at", x, () -> x.at(1), Check.INDEX);
        CHECK.refused("tick", x, () -> x.tick(-1), Check.ARGUMENT);
        CHECK.refused("begin", x, x::begin, Check.ARGUMENT);
        CHECK.refused("trusted", x, () -> x.trusted(7, true), Check.INDEX);
        Client y = new Client().keep("c");
        CHECK.refused("sign: no key first", y, () -> y.sign(10), Check.INDEX);
        CHECK.refused("sign: then no document", y, () -> y.sign(9), Check.ARGUMENT);
        Scene.root(V, END).signed(new int[6]).into(y);
        CHECK.refused("sign: no key before six", y, () -> y.sign(-1), Check.INDEX);
        CHECK.refused("sign: six", y, () -> y.sign(0), Check.UNSUPPORTED);
        y.put(0, 1);
        CHECK.refused("sign: no document before six", y, () -> y.sign(0), Check.ARGUMENT);
    }

    private static void offersThatThrow() {
        Supplier<Client> at60 = () -> ticked(SCENE.whole(), 60);
        Supplier<Client> late = () -> ticked(SCENE.whole(), END);
        Paper worst = Paper.head(3, 1, 0).add(0, 0).signed();
        SCENE.refuses("malformed first", late, Paper.head(3, 1, 0).add(0, 0).signed().add(1), Check.ARGUMENT);
        SCENE.refuses("then what is not there", late, worst, Check.INDEX);
        SCENE.refuses("then what is not signed", at60, worst, Check.STATE);
        SCENE.refuses("then the version", at60, Paper.head(3, 1, 0).add(0, 0).signed(3), Check.UNSUPPORTED);
        SCENE.refuses("then the end", at60, Paper.head(3, V, 0).add(0, 0).signed(3), Check.NO_ELEMENT);
    }

    private static void seeksThatThrow() {
        Client x = SCENE.whole().keep("c");
        x.seek("c");
        CHECK.refused("install: not found before another content", x, () -> x.install("e"), Check.NO_ELEMENT);
        CHECK.refused("install: another content", x, () -> x.install("d"), Check.UNSUPPORTED);
        x.tick(END);
        CHECK.refused("install: no name first", x, () -> x.install("E"), Check.ARGUMENT);
        CHECK.refused("install: then what has ended", x, () -> x.install("e"), Check.STATE);
        CHECK.refused("seek: no name first", x, () -> x.seek("E"), Check.ARGUMENT);
        CHECK.refused("seek: then what has ended", x, () -> x.seek("e"), Check.STATE);
    }
}
