import java.util.Arrays;
import java.util.function.Supplier;

/** Both sides of each boundary in promises 12 to 14: what is trusted, and what is refused. */
public final class OfferEdgesTest {
    private static final Check CHECK = new Check("OfferEdgesTest");
    private static final Scene SCENE = new Scene(CHECK);
    private static final int V = Scene.VERSION;
    private static final int END = Scene.END;
    private static final int[] OLD_KEYS = {0, 2, 5, 9};
    private static final int[] NEW_KEYS = {1, 3, 6, 8};

    public static void main(String[] args) {
        beginRefusesWhatIsMalformed();
        beginRefusesWhatIsNoRoot();
        beginTakesWhoeverSigned();
        beginLeavesNothingElseTrusted();
        offerRefusesWhatIsMalformed();
        rootNeedsATrustedOne();
        rootNeedsTheOldThreshold();
        rootNeedsItsOwnThreshold();
        signaturesOfTheSameKeyCountOnce();
        signaturesOfOthersDoNotCount();
        wrongSignaturesDoNotCount();
        signaturesAreForTheSignedPart();
        rootVersionIsOneMore();
        rootMayHaveEnded();
        otherStampOrSnapshotKeysDropBoth();
        otherRootOrTargetsKeysDropNothing();
        refusedRootDropsNothing();
        whatWasDroppedMayComeOlder();
        othersNeedARoot();
        othersNeedARootThatHasNotEnded();
        snapshotNeedsAStamp();
        targetsNeedASnapshot();
        targetsNeedNoStamp();
        targetsNeedAnEntry();
        stampNeedsItsThreshold();
        stampVersionIsNotLess();
        stampedVersionIsNotLess();
        firstStampMayBeAny();
        stampHasNotEnded();
        snapshotNeedsItsThreshold();
        snapshotHasTheStampedVersion();
        snapshotHasTheStampedDigest();
        snapshotVersionsAreNotLess();
        snapshotLosesNoRole();
        snapshotHasNotEnded();
        targetsNeedTheirThreshold();
        delegatesNeedNoSignatures();
        targetsHaveTheVersionSaid();
        targetsHaveNotEnded();
        endsReach65535();
        theFirstNamed();
        trustedRoles();
        trustedVersionsAndEnds();
        CHECK.end();
    }

    private static Client ticked(Client x, int n) {
        x.tick(n);
        return x;
    }

    private static Paper stamp(int version, int snapshotVersion) {
        return Paper.head(1, version, END).add(snapshotVersion).four(0).signed(1);
    }

    // Promise 12: "IllegalArgumentException when it is MALFORMED, or no ROOT."

    private static void beginRefusesWhatIsMalformed() {
        Paper[] papers = {
            Paper.of(), Paper.of(0), Scene.root(6, END), Scene.root(0, END).signed(0),
            Scene.root(6, END).signed(0).cut(1), Scene.root(6, END).signed(0).add(0),
            Scene.root(6, END).signed(new int[7]), Paper.head(0, 6, END).set(0, 0).set(1, 1).set(1, 2).set(1, 3),
        };
        for (Paper paper : papers) {
            SCENE.refuses("begin of what is malformed", SCENE::whole, paper, Client::begin, Check.ARGUMENT);
        }
        SCENE.refuses("begin of what is malformed, with nothing trusted", Client::new, papers[2], Client::begin,
                Check.ARGUMENT);
    }

    private static void beginRefusesWhatIsNoRoot() {
        Paper[] papers = {
            stamp(V, V), Scene.snapshot(), Scene.empty(3).signed(3), Scene.empty(4).signed(4),
            Scene.empty(5).signed(5), Scene.empty(6).signed(6),
        };
        for (Paper paper : papers) {
            String what = "begin of role " + paper.bytes()[0];
            SCENE.refuses(what, SCENE::whole, paper, Client::begin, Check.ARGUMENT);
            SCENE.refuses(what, Client::new, paper, Client::begin, Check.ARGUMENT);
        }
    }

    // "The draft is trusted as the root, whoever signed it, and nothing else is any more."

    private static void beginTakesWhoeverSigned() {
        Paper[] papers = {
            Scene.root(7, 9).signed(), Scene.root(7, 9).signed(0), Scene.root(7, 9).signed(8, 8),
            Scene.root(7, 9).signature(0, 0), Scene.root(7, 9).signed(0, 1, 2, 3, 4, 5),
        };
        for (Paper paper : papers) {
            Client x = new Client();
            CHECK.due("begin", paper.begunBy(x), "begun");
            CHECK.due("version", x.trusted(0, false), 7);
            CHECK.due("end", x.trusted(0, true), 9);
        }
    }

    private static void beginLeavesNothingElseTrusted() {
        for (int version : new int[] {1, V, V + 2, 255}) {
            Client x = SCENE.whole().keep("a");
            x.install("a");
            x.seek("d");
            x.tick(20);
            CHECK.due("begin with " + version, Scene.root(version, 10).signed().begunBy(x), "begun");
            CHECK.due("version", x.trusted(0, false), version);
            CHECK.due("end, though it is past", x.trusted(0, true), 10);
            for (int role = 1; role <= 6; role++) {
                CHECK.due("no more " + role, x.trusted(role, false), -1);
                CHECK.due("nor its end", x.trusted(role, true), -1);
            }
            CHECK.due("the clock stays", x.tick(0), 20);
            CHECK.due("what was installed stays", x.installed(), 1);
            CHECK.due("the visits stay", x.visits(), 3);
            CHECK.due("the draft stays", x.mix(0), Paper.mix(Scene.root(version, 10).signed().bytes(), 0));
            x.digest();
            CHECK.due("the content stays", x.at(x.length() - 1), Paper.mix(new int[] {'a'}, 0) & 255);
        }
        Client x = SCENE.withRoot();
        CHECK.due("root with another key", Paper.root(V, END, 7, 1, 2, 3).signed().begunBy(x), "begun");
        SCENE.refused("the old key", x, Paper.root(V + 1, END, 7, 1, 2, 3).signed(0), Check.STATE);
        CHECK.due("the new key", Paper.root(V + 1, END, 7, 1, 2, 3).signed(7).offeredTo(x), 0);
    }

    // Promise 13: "IllegalArgumentException when it is malformed"

    private static void offerRefusesWhatIsMalformed() {
        Paper[] papers = {
            Paper.of(), Scene.root(V + 1, END), Scene.root(0, END).signed(0),
            Scene.root(V + 1, END).signed(0).add(0), Scene.root(V + 1, END).signed(0).cut(1),
            stamp(0, V), stamp(V, 0), Scene.snapshot().add(1), Scene.empty(3), Scene.empty(4).signed().add(0),
            Paper.head(7, V, END).add(0, 0).signed(),
        };
        for (Paper paper : papers) {
            SCENE.refuses("offer of what is malformed", SCENE::whole, paper, Check.ARGUMENT);
        }
    }

    // "A ROOT: it must be signed by the threshold of the ROOT keys of the trusted root, and of its own"

    private static void rootNeedsATrustedOne() {
        SCENE.refuses("a root, none trusted", Client::new, Scene.root(1, END).signed(0), Check.INDEX);
        SCENE.takes("a root, one trusted", SCENE.withRoot(), Scene.root(V + 1, END).signed(0));
    }

    private static Paper rootWith(int version, int threshold, int... keys) {
        return Paper.head(0, version, END).set(threshold, keys).set(1, 1).set(1, 2).set(1, 3);
    }

    private static int[] joined(int[] some, int... more) {
        int[] all = Arrays.copyOf(some, some.length + more.length);
        System.arraycopy(more, 0, all, some.length, more.length);
        return all;
    }

    private static void rootNeedsTheOldThreshold() {
        for (int count = 1; count <= 4; count++) {
            int[] keys = Arrays.copyOf(OLD_KEYS, count);
            for (int threshold = 1; threshold <= count; threshold++) {
                int t = threshold;
                Supplier<Client> scene = () -> SCENE.withRoot(rootWith(V, t, keys));
                int[] fewer = Arrays.copyOf(keys, threshold - 1);
                int[] last = Arrays.copyOfRange(keys, count - threshold, count);
                String what = threshold + " of " + count + " old keys";
                SCENE.refuses("fewer than " + what, scene, rootWith(V + 1, 1, 7).signed(joined(fewer, 7)), Check.STATE);
                SCENE.takes(what, scene.get(), rootWith(V + 1, 1, 7).signed(joined(last, 7)));
                SCENE.takes("all: " + what, scene.get(), rootWith(V + 1, 1, 7).signed(joined(keys, 7)));
            }
        }
    }

    private static void rootNeedsItsOwnThreshold() {
        for (int count = 1; count <= 4; count++) {
            int[] keys = Arrays.copyOf(NEW_KEYS, count);
            for (int threshold = 1; threshold <= count; threshold++) {
                int[] fewer = Arrays.copyOf(keys, threshold - 1);
                int[] last = Arrays.copyOfRange(keys, count - threshold, count);
                String what = threshold + " of " + count + " own keys";
                SCENE.refuses("fewer than " + what, SCENE::withRoot,
                        rootWith(V + 1, threshold, keys).signed(joined(fewer, 0)), Check.STATE);
                SCENE.takes(what, SCENE.withRoot(), rootWith(V + 1, threshold, keys).signed(joined(last, 0)));
            }
        }
        SCENE.takes("one key for both", SCENE.withRoot(), rootWith(V + 1, 1, 0, 5).signed(0));
        SCENE.refuses("its own alone", SCENE::withRoot, rootWith(V + 1, 1, 5).signed(5), Check.STATE);
        SCENE.refuses("the old one alone", SCENE::withRoot, rootWith(V + 1, 1, 5).signed(0), Check.STATE);
    }

    // "SIGNED BY so many of some keys, as there are different ones among these whose signature ... it has"

    private static void signaturesOfTheSameKeyCountOnce() {
        Supplier<Client> scene = () -> SCENE.withRoot(rootWith(V, 2, 0, 5));
        SCENE.refuses("one key six times", scene, rootWith(V + 1, 1, 0).signed(0, 0, 0, 0, 0, 0), Check.STATE);
        SCENE.refuses("the other one", scene, rootWith(V + 1, 1, 5).signed(5, 5), Check.STATE);
        SCENE.takes("two keys", scene.get(), rootWith(V + 1, 1, 0).signed(0, 5));
        SCENE.takes("two keys, turned round, one twice", scene.get(), rootWith(V + 1, 1, 0).signed(5, 5, 0));
        SCENE.takes("the second is the sixth", scene.get(), rootWith(V + 1, 1, 0).signed(0, 0, 0, 0, 0, 5));
    }

    private static void signaturesOfOthersDoNotCount() {
        SCENE.refuses("none", SCENE::withRoot, stamp0().signed(), Check.STATE);
        SCENE.refuses("all others", SCENE::withRoot, stamp0().signed(0, 2, 3, 4, 5, 6), Check.STATE);
        SCENE.takes("others and the one", SCENE.withRoot(), stamp0().signed(0, 2, 3, 4, 5, 1));
    }

    private static Paper stamp0() {
        return Paper.head(1, V, END).add(V).four(0);
    }

    private static void wrongSignaturesDoNotCount() {
        int right = stamp0().signatureOf(1);
        for (int bit = 0; bit < 32; bit++) {
            Client x = SCENE.withRoot();
            Paper paper = stamp0().signature(1, right ^ 1 << bit);
            SCENE.refused("bit " + bit + " is wrong", x, paper, Check.STATE);
            CHECK.due("not trusted", x.trusted(1, false), -1);
        }
        SCENE.refuses("a wrong one", SCENE::withRoot, stamp0().signature(1, 0), Check.STATE);
        SCENE.refuses("another key's", SCENE::withRoot, stamp0().signature(1, stamp0().signatureOf(2)), Check.STATE);
        SCENE.refuses("under another key", SCENE::withRoot, stamp0().signature(2, right), Check.STATE);
        SCENE.refuses("the digest", SCENE::withRoot, stamp0().signature(1, stamp0().signatureOf(-1)), Check.STATE);
        SCENE.takes("the right one", SCENE.withRoot(), stamp0().signature(1, right));
        SCENE.takes("a wrong and the right one", SCENE.withRoot(), stamp0().signature(1, 0).signature(1, right));
        SCENE.takes("the right and a wrong one", SCENE.withRoot(), stamp0().signature(1, right).signature(1, 0));
    }

    private static void signaturesAreForTheSignedPart() {
        Client x = SCENE.withRoot();
        stamp0().signed(1).into(x);
        for (int i = 1; i < 9; i++) {
            int at = i;
            int byteThere = x.at(i);
            x.alter(i, byteThere ^ 2);
            CHECK.refused("byte " + i + " altered behind signing", x, x::offer, Check.STATE);
            x.alter(at, byteThere);
        }
        CHECK.answers("as it was", x::offer, 1);
    }

    // "its version must be one more than that of the trusted one"

    private static void rootVersionIsOneMore() {
        for (int version : new int[] {1, V - 1, V, V + 2, 255}) {
            SCENE.refuses("root " + version + " behind " + V, SCENE::whole, Scene.root(version, END).signed(0),
                    Check.UNSUPPORTED);
        }
        SCENE.takes("root 6 behind 5", SCENE.whole(), Scene.root(V + 1, END).signed(0));
        Client x = SCENE.withRoot(Scene.root(254, END));
        SCENE.takes("root 255 behind 254", x, Scene.root(255, END).signed(0));
        SCENE.refused("root 255 behind 255", x, Scene.root(255, END).signed(0), Check.UNSUPPORTED);
        SCENE.refused("root 1 behind 255", x, Scene.root(1, END).signed(0), Check.UNSUPPORTED);
        SCENE.refused("root 0 behind 255", x, Scene.root(0, END).signed(0), Check.ARGUMENT);
        CHECK.due("still 255", x.trusted(0, false), 255);
        Client y = SCENE.withRoot(Scene.root(1, END));
        SCENE.takes("root 2 behind 1", y, Scene.root(2, END).signed(0));
        SCENE.takes("root 3 behind 2", y, Scene.root(3, END).signed(0));
    }

    // "(It may have ended.)"

    private static void rootMayHaveEnded() {
        for (int oldEnd : new int[] {0, 50, 51, END}) {
            for (int newEnd : new int[] {0, 49, 50, 51, END}) {
                Client x = ticked(SCENE.withRoot(Scene.root(V, oldEnd)), 50);
                SCENE.takes("end " + newEnd + " behind " + oldEnd, x, Scene.root(V + 1, newEnd).signed(0));
            }
        }
    }

    // "If the keys or the threshold for STAMP or SNAPSHOT are not the same any more, the documents for both are not
    // trusted any more."

    private static Client withTwoKeysEach() {
        Client x = SCENE.withRoot(twoKeysEach(V));
        Paper snapshot = Paper.snapshot(V, END, 3, V, 4, V).signed(3);
        SCENE.offered(x, Paper.stamp(V, END, snapshot).signed(1), 1);
        SCENE.offered(x, snapshot, 2);
        SCENE.offered(x, Scene.empty(3).signed(5), 3);
        SCENE.offered(x, Scene.empty(4).signed(), 4);
        return x;
    }

    private static Paper twoKeysEach(int version) {
        return Paper.head(0, version, END).set(1, 0, 8).set(1, 1, 2).set(1, 3, 4).set(1, 5, 6);
    }

    /** The next root with another key set for one role. */
    private static Paper otherSet(int role, int threshold, int... keys) {
        Paper paper = Paper.head(0, V + 1, END);
        int[][] sets = {{0, 8}, {1, 2}, {3, 4}, {5, 6}};
        for (int i = 0; i < 4; i++) {
            if (i == role) {
                paper.set(threshold, keys);
            } else {
                paper.set(1, sets[i]);
            }
        }
        return paper;
    }

    private static void dropped(String what, Paper root, boolean gone) {
        Client x = withTwoKeysEach();
        CHECK.due(what, root.signed(0, 8, 7, 9).offeredTo(x), 0);
        CHECK.due(what + ": root", x.trusted(0, false), V + 1);
        for (int role = 1; role <= 2; role++) {
            CHECK.due(what + ": version of " + role, x.trusted(role, false), gone ? -1 : V);
            CHECK.due(what + ": end of " + role, x.trusted(role, true), gone ? -1 : END);
        }
        for (int role = 3; role <= 4; role++) {
            CHECK.due(what + ": version of " + role, x.trusted(role, false), V);
            CHECK.due(what + ": end of " + role, x.trusted(role, true), END);
        }
        if (gone) {
            CHECK.refused(what + ": seek", x, () -> x.seek("a"), Check.STATE);
            SCENE.refused(what + ": targets", x, Scene.empty(3).signed(5, 6), Check.INDEX);
        } else {
            CHECK.answers(what + ": seek", () -> x.seek("a"), -1);
            SCENE.takes(what + ": targets", x, Scene.empty(3).signed(5, 6));
        }
    }

    private static void otherStampOrSnapshotKeysDropBoth() {
        dropped("stamp threshold", otherSet(1, 2, 1, 2), true);
        dropped("first stamp key", otherSet(1, 1, 0, 2), true);
        dropped("last stamp key", otherSet(1, 1, 1, 3), true);
        dropped("one stamp key more", otherSet(1, 1, 1, 2, 3), true);
        dropped("one stamp key less", otherSet(1, 1, 1), true);
        dropped("snapshot threshold", otherSet(2, 2, 3, 4), true);
        dropped("first snapshot key", otherSet(2, 1, 2, 4), true);
        dropped("last snapshot key", otherSet(2, 1, 3, 5), true);
        dropped("one snapshot key more", otherSet(2, 1, 3, 4, 5), true);
        dropped("one snapshot key less", otherSet(2, 1, 4), true);
        dropped("both", Paper.head(0, V + 1, END).set(1, 0).set(1, 7).set(1, 7).set(1, 5, 6), true);
        dropped("sets changed round", Paper.head(0, V + 1, END).set(1, 0).set(1, 3, 4).set(1, 1, 2).set(1, 5, 6), true);
        Client x = SCENE.withStamp(Scene.snapshot());
        CHECK.due("a stamp alone", Paper.root(V + 1, END, 0, 1, 9, 3).signed(0).offeredTo(x), 0);
        CHECK.due("goes, too", x.trusted(1, false), -1);
    }

    private static void otherRootOrTargetsKeysDropNothing() {
        dropped("nothing changes", twoKeysEach(V + 1), false);
        dropped("root threshold", otherSet(0, 2, 0, 8), false);
        dropped("root keys", otherSet(0, 2, 7, 9), false);
        dropped("targets threshold", otherSet(3, 2, 5, 6), false);
        dropped("one targets key less", otherSet(3, 1, 6), false);
        dropped("one root key more", otherSet(0, 1, 0, 7, 8, 9), false);
    }

    private static void refusedRootDropsNothing() {
        SCENE.refuses("other keys, not signed so", SCENE::whole, Paper.root(V + 1, END, 0, 7, 8, 3).signed(1),
                Check.STATE);
        SCENE.refuses("other keys, a version too many", SCENE::whole, Paper.root(V + 2, END, 0, 7, 8, 3).signed(0),
                Check.UNSUPPORTED);
        SCENE.refuses("other keys, the same version", SCENE::whole, Paper.root(V, END, 0, 7, 8, 3).signed(0),
                Check.UNSUPPORTED);
    }

    private static void whatWasDroppedMayComeOlder() {
        Client x = SCENE.whole();
        CHECK.due("other stamp key", Paper.root(V + 1, END, 0, 7, 2, 3).signed(0).offeredTo(x), 0);
        Paper older = Paper.snapshot(1, END, 3, 1).signed(2);
        SCENE.refused("the old key", x, Paper.stamp(1, END, older).signed(1), Check.STATE);
        SCENE.takes("an older stamp", x, Paper.stamp(1, END, older).signed(7));
        SCENE.takes("an older snapshot with fewer roles", x, older);
        CHECK.due("the targets stay", x.trusted(3, false), V);
        CHECK.refused("but are not fresh", x, () -> x.seek("a"), Check.STATE);
        SCENE.takes("older targets", x, Paper.head(3, 1, END).add(0, 1).delegation(5, 0, 1, 5, "").signed(3));
        CHECK.answers("a role without entry is not fresh", () -> x.seek("c"), -1);
        CHECK.due("not visited", x.visits(), 1);
        CHECK.due("though trusted", x.trusted(5, false), V);
        SCENE.refused("nor taken", x, Scene.empty(5).signed(), Check.INDEX);
    }

    // "All others: there must be a trusted root that has not ended, and: for a STAMP nothing more, for a SNAPSHOT a
    // trusted STAMP that has not ended, for TARGETS and DELEGATES a trusted SNAPSHOT that has not ended."

    private static void othersNeedARoot() {
        SCENE.refuses("stamp, no root", Client::new, stamp(V, V), Check.INDEX);
        SCENE.refuses("snapshot, no root", Client::new, Scene.snapshot(), Check.INDEX);
        for (int role = 3; role <= 6; role++) {
            SCENE.refuses("role " + role + ", no root", Client::new, Scene.empty(role).signed(3), Check.INDEX);
        }
        SCENE.takes("stamp, a root alone", SCENE.withRoot(), stamp(V, V));
    }

    /** All is trusted; the root ends at 50, the rest later. */
    private static Client withRootTo50(int clock) {
        Client x = SCENE.withRoot(Scene.root(V, 50));
        SCENE.offered(x, Scene.stamp(Scene.snapshot()), 1);
        SCENE.offered(x, Scene.snapshot(), 2);
        return ticked(x, clock);
    }

    private static void othersNeedARootThatHasNotEnded() {
        Paper[] papers = {
            stamp(V, V), Scene.snapshot(), Scene.empty(3).signed(3), Scene.empty(4).signed(),
            Scene.empty(5).signed(), Scene.empty(6).signed(),
        };
        for (Paper paper : papers) {
            String what = "role " + paper.bytes()[0];
            SCENE.takes(what + ", one before the root's end", withRootTo50(49), paper);
            SCENE.refuses(what + ", at the root's end", () -> withRootTo50(50), paper, Check.INDEX);
            SCENE.refuses(what + ", behind the root's end", () -> withRootTo50(51), paper, Check.INDEX);
        }
        Client x = withRootTo50(50);
        CHECK.due("a new root", Scene.root(V + 1, 51).signed(0).offeredTo(x), 0);
        SCENE.takes("that has not ended", x, stamp(V, V));
    }

    /** A stamp that ends at 50, and the snapshot that it tells of, which is not trusted yet. */
    private static Client withStampTo50(int clock) {
        Client x = SCENE.withRoot();
        SCENE.offered(x, Paper.stamp(V, 50, Scene.snapshot()).signed(1), 1);
        return ticked(x, clock);
    }

    private static void snapshotNeedsAStamp() {
        SCENE.refuses("no stamp", SCENE::withRoot, Scene.snapshot(), Check.INDEX);
        SCENE.takes("one before the stamp's end", withStampTo50(49), Scene.snapshot());
        SCENE.refuses("at the stamp's end", () -> withStampTo50(50), Scene.snapshot(), Check.INDEX);
        SCENE.refuses("behind the stamp's end", () -> withStampTo50(51), Scene.snapshot(), Check.INDEX);
    }

    private static Client withSnapshotTo50(int clock) {
        Paper snapshot = Paper.snapshot(V, 50, 3, V, 4, V, 5, V, 6, V).signed(2);
        return ticked(SCENE.withSnapshot(snapshot), clock);
    }

    private static void targetsNeedASnapshot() {
        for (int role = 3; role <= 6; role++) {
            Paper paper = Scene.empty(role).signed(3);
            String what = "role " + role;
            SCENE.refuses(what + ", a root alone", SCENE::withRoot, paper, Check.INDEX);
            SCENE.refuses(what + ", no snapshot", () -> SCENE.withStamp(Scene.snapshot()), paper, Check.INDEX);
            SCENE.takes(what + ", one before the snapshot's end", withSnapshotTo50(49), paper);
            SCENE.refuses(what + ", at the snapshot's end", () -> withSnapshotTo50(50), paper, Check.INDEX);
            SCENE.refuses(what + ", behind the snapshot's end", () -> withSnapshotTo50(51), paper, Check.INDEX);
        }
    }

    private static void targetsNeedNoStamp() {
        for (int role = 3; role <= 6; role++) {
            Client x = withStampTo50(49);
            SCENE.offered(x, Scene.snapshot(), 2);
            x.tick(1);
            SCENE.takes("role " + role + ", the stamp has ended", x, Scene.empty(role).signed(3));
        }
    }

    // "or the snapshot has no version for the role"

    private static void targetsNeedAnEntry() {
        for (int left = 4; left <= 6; left++) {
            int without = left;
            Supplier<Client> scene = () -> SCENE.withSnapshot(snapshotWithout(without));
            for (int role = 3; role <= 6; role++) {
                Paper paper = Scene.empty(role).signed(3);
                if (role == left) {
                    SCENE.refuses("no entry for " + role, scene, paper, Check.INDEX);
                } else {
                    SCENE.takes("an entry for " + role, scene.get(), paper);
                }
            }
        }
        Supplier<Client> alone = () -> SCENE.withSnapshot(Paper.snapshot(V, END, 3, V).signed(2, 2, 2, 2));
        SCENE.refuses("TARGETS' entry alone", alone, Scene.empty(4).signed(), Check.INDEX);
    }

    private static Paper snapshotWithout(int left) {
        Paper paper = Paper.head(2, V, END).add(3);
        for (int role = 3; role <= 6; role++) {
            if (role != left) {
                paper.add(role, V);
            }
        }
        return paper.signed(2);
    }

    // "A STAMP: signed by the threshold of the STAMP keys of the root."

    /** A root with one key for all but the role, which has three keys and a threshold of two. */
    private static Client withTwoOfThree(int role) {
        Paper root = Paper.head(0, V, END);
        for (int i = 0; i < 4; i++) {
            if (i == role) {
                root.set(2, 4, 5, 6);
            } else {
                root.set(1, i);
            }
        }
        return SCENE.withRoot(root);
    }

    private static void stampNeedsItsThreshold() {
        Supplier<Client> scene = () -> withTwoOfThree(1);
        SCENE.refuses("none", scene, stamp0().signed(), Check.STATE);
        SCENE.refuses("one", scene, stamp0().signed(4), Check.STATE);
        SCENE.refuses("one and others", scene, stamp0().signed(0, 1, 2, 3, 6), Check.STATE);
        SCENE.refuses("one twice", scene, stamp0().signed(5, 5), Check.STATE);
        SCENE.takes("4 and 5", scene.get(), stamp0().signed(4, 5));
        SCENE.takes("6 and 4", scene.get(), stamp0().signed(6, 4));
        SCENE.takes("5 and 6", scene.get(), stamp0().signed(5, 6));
        SCENE.takes("all", scene.get(), stamp0().signed(4, 5, 6));
    }

    // "Its version must not be less than that of the trusted one, nor the snapshot's version in it than in that one."

    private static void stampVersionIsNotLess() {
        SCENE.refuses("stamp 4 behind 5", SCENE::whole, stamp(V - 1, V), Check.UNSUPPORTED);
        SCENE.refuses("stamp 1 behind 5", SCENE::whole, stamp(1, 255), Check.UNSUPPORTED);
        SCENE.takes("stamp 5 behind 5", SCENE.whole(), stamp(V, V));
        SCENE.takes("stamp 6 behind 5", SCENE.whole(), stamp(V + 1, V));
        SCENE.takes("stamp 255 behind 5", SCENE.whole(), stamp(255, V));
        Client x = SCENE.withRoot();
        SCENE.takes("stamp 255", x, stamp(255, V));
        SCENE.refused("stamp 254 behind 255", x, stamp(254, V), Check.UNSUPPORTED);
        SCENE.refused("stamp 1 behind 255", x, stamp(1, V), Check.UNSUPPORTED);
        SCENE.takes("stamp 255 behind 255", x, stamp(255, V));
    }

    private static void stampedVersionIsNotLess() {
        SCENE.refuses("snapshot 4 behind 5", SCENE::whole, stamp(V, V - 1), Check.UNSUPPORTED);
        SCENE.refuses("snapshot 4 behind 5, a later stamp", SCENE::whole, stamp(255, V - 1), Check.UNSUPPORTED);
        SCENE.takes("snapshot 5 behind 5", SCENE.whole(), stamp(V + 1, V));
        SCENE.takes("snapshot 6 behind 5", SCENE.whole(), stamp(V, V + 1));
        SCENE.takes("snapshot 255 behind 5", SCENE.whole(), stamp(V, 255));
        Client x = SCENE.whole();
        SCENE.takes("a stamp with 9, the snapshot stays", x, stamp(V, 9));
        SCENE.refused("8 is less than in the stamp", x, stamp(V, 8), Check.UNSUPPORTED);
        CHECK.due("though not than the snapshot's", x.trusted(2, false), V);
        x.tick(END - 1);
        SCENE.refused("a stamp that is about to end counts", x, stamp(V - 1, 9), Check.UNSUPPORTED);
    }

    private static void firstStampMayBeAny() {
        SCENE.takes("version 1, snapshot 1", SCENE.withRoot(), stamp(1, 1));
        SCENE.takes("version 255, snapshot 255", SCENE.withRoot(), stamp(255, 255));
        Client x = SCENE.withRoot();
        SCENE.offered(x, Paper.head(1, V, 10).add(V).four(0).signed(1), 1);
        x.tick(10);
        SCENE.refused("behind one that has ended", x, stamp(V - 1, V), Check.UNSUPPORTED);
        SCENE.refused("the same for the snapshot", x, stamp(V, V - 1), Check.UNSUPPORTED);
        SCENE.takes("not less than it", x, stamp(V, V));
    }

    // "It must not have ended."; "A document has ENDED when its end is not after the clock."

    private static void stampHasNotEnded() {
        Supplier<Client> scene = () -> ticked(SCENE.whole(), 50);
        for (int end : new int[] {0, 1, 49, 50}) {
            SCENE.refuses("stamp with end " + end + " at 50", scene,
                    Paper.head(1, V, end).add(V).four(0).signed(1), Check.NO_ELEMENT);
        }
        SCENE.takes("stamp with end 51 at 50", scene.get(), Paper.head(1, V, 51).add(V).four(0).signed(1));
        SCENE.refuses("stamp with end 0 at 0", SCENE::withRoot, Paper.head(1, V, 0).add(V).four(0).signed(1),
                Check.NO_ELEMENT);
        SCENE.takes("stamp with end 1 at 0", SCENE.withRoot(), Paper.head(1, V, 1).add(V).four(0).signed(1));
    }

    // "A SNAPSHOT: signed likewise by the SNAPSHOT keys."

    private static void snapshotNeedsItsThreshold() {
        int[][] fewer = {{}, {4}, {6, 6, 6}, {0, 1, 2, 3, 5}};
        for (int[] keys : fewer) {
            Paper snapshot = Paper.snapshot(V, END, 3, V).signed(keys);
            SCENE.refuses("snapshot signed by " + Arrays.toString(keys), () -> withStampOf(snapshot), snapshot,
                    Check.STATE);
        }
        int[][] enough = {{4, 5}, {6, 5}, {4, 6}, {6, 5, 4}};
        for (int[] keys : enough) {
            Paper snapshot = Paper.snapshot(V, END, 3, V).signed(keys);
            SCENE.takes("snapshot signed by " + Arrays.toString(keys), withStampOf(snapshot), snapshot);
        }
    }

    private static Client withStampOf(Paper snapshot) {
        Client x = withTwoOfThree(2);
        SCENE.offered(x, Paper.stamp(V, END, snapshot).signed(1), 1);
        return x;
    }

    // "It must be what the stamp says: version and digest."; "(the digest of the whole document)"

    private static void snapshotHasTheStampedVersion() {
        int digest = Paper.mix(Scene.snapshot().bytes(), 0);
        for (int version : new int[] {1, V - 1, V + 1, 255}) {
            Supplier<Client> scene = () -> {
                Client x = SCENE.withRoot();
                SCENE.offered(x, Paper.head(1, V, END).add(version).four(digest).signed(1), 1);
                return x;
            };
            SCENE.refuses("version 5, the stamp says " + version, scene, Scene.snapshot(), Check.UNSUPPORTED);
        }
        SCENE.takes("version 5, the stamp says 5", SCENE.withStamp(Scene.snapshot()), Scene.snapshot());
    }

    private static void snapshotHasTheStampedDigest() {
        int digest = Paper.mix(Scene.snapshot().bytes(), 0);
        for (int bit = 0; bit < 32; bit++) {
            Client x = SCENE.withRoot();
            SCENE.offered(x, Paper.head(1, V, END).add(V).four(digest ^ 1 << bit).signed(1), 1);
            SCENE.refused("bit " + bit + " of the digest is wrong", x, Scene.snapshot(), Check.UNSUPPORTED);
            CHECK.due("not trusted", x.trusted(2, false), -1);
        }
        Supplier<Client> scene = () -> SCENE.withStamp(Scene.snapshot());
        SCENE.refuses("a signature more", scene, Scene.snapshot().signed(5), Check.UNSUPPORTED);
        SCENE.refuses("another end", scene, Paper.snapshot(V, END + 1, 3, 5, 4, 5, 5, 5, 6, 5).signed(2),
                Check.UNSUPPORTED);
        SCENE.refuses("another version in it", scene, Paper.snapshot(V, END, 3, 5, 4, 5, 5, 5, 6, 6).signed(2),
                Check.UNSUPPORTED);
        Supplier<Client> ofThePart = () -> {
            Client x = SCENE.withRoot();
            int part = Scene.snapshot().signatureOf(-1);
            SCENE.offered(x, Paper.head(1, V, END).add(V).four(part).signed(1), 1);
            return x;
        };
        SCENE.refuses("the digest of the signed part alone", ofThePart, Scene.snapshot(), Check.UNSUPPORTED);
    }

    // "For each role in the trusted snapshot it must have a version that is not less."

    /** A whole client whose stamp tells of the snapshot already. */
    private static Client wholeStampedWith(Paper snapshot) {
        Client x = SCENE.whole();
        SCENE.offered(x, Paper.stamp(V, END, snapshot).signed(1), 1);
        return x;
    }

    private static void snapshotVersionsAreNotLess() {
        for (int at = 3; at <= 6; at++) {
            for (int version : new int[] {1, V - 1, V, V + 1, 255}) {
                Paper snapshot = Paper.head(2, V + 1, END).add(4);
                for (int role = 3; role <= 6; role++) {
                    snapshot.add(role, role == at ? version : V);
                }
                snapshot.signed(2);
                String what = "version " + version + " for role " + at;
                if (version < V) {
                    SCENE.refuses(what, () -> wholeStampedWith(snapshot), snapshot, Check.UNSUPPORTED);
                } else {
                    SCENE.takes(what, wholeStampedWith(snapshot), snapshot);
                }
            }
        }
        Paper less = Paper.snapshot(255, END, 3, V - 1, 4, 255, 5, 255, 6, 255).signed(2);
        SCENE.refuses("one is less, the others more", () -> wholeStampedWith(less), less, Check.UNSUPPORTED);
    }

    private static void snapshotLosesNoRole() {
        for (int left = 4; left <= 6; left++) {
            Paper snapshot = snapshotWithout(left);
            SCENE.refuses("without role " + left, () -> wholeStampedWith(snapshot), snapshot, Check.UNSUPPORTED);
            Client x = SCENE.withSnapshot(snapshot);
            SCENE.offered(x, Scene.stamp(Scene.snapshot()), 1);
            SCENE.takes("with role " + left + " anew", x, Scene.snapshot());
        }
        Paper alone = Paper.snapshot(V, END, 3, 255).signed(2);
        SCENE.refuses("TARGETS alone", () -> wholeStampedWith(alone), alone, Check.UNSUPPORTED);
        SCENE.takes("TARGETS alone as the first", SCENE.withStamp(alone), alone);
        Client x = SCENE.withSnapshot(alone);
        Paper first = Paper.snapshot(V, END, 3, 255, 4, 1).signed(2);
        SCENE.offered(x, Scene.stamp(first), 1);
        SCENE.takes("version 1 for a role that is new in it", x, first);
    }

    private static void snapshotHasNotEnded() {
        for (int end : new int[] {0, 49, 50, 51}) {
            Paper snapshot = Paper.snapshot(V, end, 3, V, 4, V, 5, V, 6, V).signed(2);
            Supplier<Client> scene = () -> ticked(wholeStampedWith(snapshot), 50);
            if (end <= 50) {
                SCENE.refuses("snapshot with end " + end + " at 50", scene, snapshot, Check.NO_ELEMENT);
            } else {
                SCENE.takes("snapshot with end " + end + " at 50", scene.get(), snapshot);
            }
        }
    }

    // "TARGETS: signed likewise by the TARGETS keys; DELEGATES need no signatures for this."

    private static Client withTwoOfThreeForTargets() {
        Client x = withTwoOfThree(3);
        SCENE.offered(x, Scene.stamp(Scene.snapshot()), 1);
        SCENE.offered(x, Scene.snapshot(), 2);
        return x;
    }

    private static void targetsNeedTheirThreshold() {
        int[][] fewer = {{}, {4}, {6, 6, 6}, {0, 1, 2, 3, 5}};
        for (int[] keys : fewer) {
            SCENE.refuses("targets signed by " + Arrays.toString(keys),
                    OfferEdgesTest::withTwoOfThreeForTargets, Scene.empty(3).signed(keys), Check.STATE);
        }
        int[][] enough = {{4, 5}, {6, 5}, {4, 6}, {6, 5, 4}};
        for (int[] keys : enough) {
            SCENE.takes("targets signed by " + Arrays.toString(keys), withTwoOfThreeForTargets(),
                    Scene.empty(3).signed(keys));
        }
        SCENE.refuses("in place of trusted ones", SCENE::whole, Scene.empty(3).signed(4), Check.STATE);
        Client x = SCENE.whole();
        CHECK.due("another key for TARGETS", Paper.root(V + 1, END, 0, 1, 2, 7).signed(0).offeredTo(x), 0);
        SCENE.refused("the old key", x, Scene.empty(3).signed(3), Check.STATE);
        SCENE.takes("the new key", x, Scene.empty(3).signed(7));
    }

    private static void delegatesNeedNoSignatures() {
        for (int role = 4; role <= 6; role++) {
            SCENE.takes("role " + role + " with none", SCENE.withSnapshot(), Scene.empty(role).signed());
            SCENE.takes("role " + role + " with a wrong one", SCENE.withSnapshot(),
                    Scene.empty(role).signature(4, 0));
            SCENE.takes("role " + role + " in place of a signed one", SCENE.whole(), Scene.empty(role).signed());
        }
        SCENE.refuses("TARGETS with none", SCENE::withSnapshot, Scene.empty(3).signed(), Check.STATE);
    }

    // "The version must be what the snapshot says for the role."

    private static void targetsHaveTheVersionSaid() {
        for (int role = 3; role <= 6; role++) {
            for (int version : new int[] {1, V - 1, V, V + 1, 255}) {
                Paper paper = Paper.head(role, version, END).add(0, 0).signed(3);
                String what = "role " + role + " with version " + version;
                if (version == V) {
                    SCENE.takes(what, SCENE.withSnapshot(), paper);
                    SCENE.takes(what + " anew", SCENE.whole(), paper);
                } else {
                    SCENE.refuses(what, SCENE::whole, paper, Check.UNSUPPORTED);
                    SCENE.refuses(what + " as the first", SCENE::withSnapshot, paper, Check.UNSUPPORTED);
                }
            }
        }
        Client x = SCENE.withSnapshot(Paper.snapshot(V, END, 3, 1, 4, 2, 5, 3, 6, 255).signed(2));
        SCENE.takes("3 at 1", x, Paper.head(3, 1, END).add(0, 0).signed(3));
        SCENE.takes("4 at 2", x, Paper.head(4, 2, END).add(0, 0).signed());
        SCENE.takes("5 at 3", x, Paper.head(5, 3, END).add(0, 0).signed());
        SCENE.takes("6 at 255", x, Paper.head(6, 255, END).add(0, 0).signed());
        SCENE.refused("5 at 4's", x, Paper.head(5, 2, END).add(0, 0).signed(), Check.UNSUPPORTED);
    }

    private static void targetsHaveNotEnded() {
        for (int role = 3; role <= 6; role++) {
            for (int end : new int[] {0, 49, 50, 51}) {
                Paper paper = Paper.head(role, V, end).add(0, 0).signed(3);
                String what = "role " + role + " with end " + end + " at 50";
                Supplier<Client> scene = () -> ticked(SCENE.whole(), 50);
                if (end <= 50) {
                    SCENE.refuses(what, scene, paper, Check.NO_ELEMENT);
                } else {
                    SCENE.takes(what, scene.get(), paper);
                }
            }
        }
    }

    private static void endsReach65535() {
        Client x = SCENE.withRoot(Scene.root(V, 65535));
        for (int i = 0; i < 6; i++) {
            x.tick(10000);
        }
        CHECK.due("clock", x.tick(5534), 65534);
        SCENE.refused("end 65534", x, Paper.head(1, V, 65534).add(V).four(0).signed(1), Check.NO_ELEMENT);
        SCENE.takes("end 65535", x, Paper.head(1, V, 65535).add(V).four(0).signed(1));
        x.tick(1);
        SCENE.refused("the root has ended", x, Paper.head(1, V, 65535).add(V).four(0).signed(1), Check.INDEX);
        SCENE.takes("the clock is past every end, but for a root", x, Scene.root(V + 1, 65535).signed(0));
        x.tick(10000);
        SCENE.refused("an end does not come round again", x, stamp(V, V), Check.INDEX);
    }

    // "where several exceptions that a call names fit, it is the one that it names first"

    private static void theFirstNamed() {
        SCENE.refuses("malformed before missing", Client::new, Scene.empty(3).signed().add(0), Check.ARGUMENT);
        SCENE.refuses("malformed before not signed", SCENE::whole, Scene.empty(3).signed().add(0), Check.ARGUMENT);
        Supplier<Client> late = () -> ticked(SCENE.whole(), END);
        SCENE.refuses("ended root before not signed", late, Paper.head(1, 1, 9).add(1).four(0).signed(), Check.INDEX);
        SCENE.refuses("no entry before an old version and an end", () -> ticked(SCENE.withSnapshot(
                Paper.snapshot(V, END, 3, V).signed(2)), 50), Paper.head(4, 1, 9).add(0, 0).signed(), Check.INDEX);
        Supplier<Client> at50 = () -> ticked(SCENE.whole(), 50);
        SCENE.refuses("root: not signed before version", at50, Scene.root(V, 9).signed(1), Check.STATE);
        SCENE.refuses("root: version, though it has ended", at50, Scene.root(V, 9).signed(0), Check.UNSUPPORTED);
        SCENE.refuses("stamp: not signed before version and end", at50,
                Paper.head(1, 1, 9).add(1).four(0).signed(2), Check.STATE);
        SCENE.refuses("stamp: version before end", at50, Paper.head(1, 1, 9).add(V).four(0).signed(1),
                Check.UNSUPPORTED);
        SCENE.refuses("stamp: version in it before end", at50, Paper.head(1, V, 9).add(1).four(0).signed(1),
                Check.UNSUPPORTED);
        SCENE.refuses("snapshot: not signed before version and end", at50,
                Paper.snapshot(1, 9, 3, 1).signed(1), Check.STATE);
        SCENE.refuses("snapshot: version before end", at50, Paper.snapshot(1, 9, 3, 1).signed(2), Check.UNSUPPORTED);
        SCENE.refuses("snapshot: digest before end", at50,
                Paper.snapshot(V, 9, 3, V, 4, V, 5, V, 6, V).signed(2), Check.UNSUPPORTED);
        Paper older = Paper.snapshot(V, 9, 3, 1, 4, V, 5, V, 6, V).signed(2);
        SCENE.refuses("snapshot: version in it before end", () -> ticked(wholeStampedWith(older), 50), older,
                Check.UNSUPPORTED);
        SCENE.refuses("targets: not signed before version and end", at50, Paper.head(3, 1, 9).add(0, 0).signed(),
                Check.STATE);
        SCENE.refuses("targets: version before end", at50, Paper.head(3, 1, 9).add(0, 0).signed(3),
                Check.UNSUPPORTED);
        SCENE.refuses("delegates: version before end", at50, Paper.head(4, 1, 9).add(0, 0).signed(),
                Check.UNSUPPORTED);
    }

    // Promise 14: "NONE when there is none. IndexOutOfBoundsException when there is no such role."

    private static void trustedRoles() {
        Client x = SCENE.whole();
        for (int role = 0; role <= 6; role++) {
            CHECK.due("version of " + role, x.trusted(role, false), V);
            CHECK.due("end of " + role, x.trusted(role, true), END);
        }
        for (int role : new int[] {-1, 7, Integer.MIN_VALUE, Integer.MAX_VALUE}) {
            CHECK.refused("version of role " + role, x, () -> x.trusted(role, false), Check.INDEX);
            CHECK.refused("end of role " + role, x, () -> x.trusted(role, true), Check.INDEX);
        }
        Client y = SCENE.withStamp(Scene.snapshot());
        for (int role = 0; role <= 6; role++) {
            CHECK.due("of the first two, version of " + role, y.trusted(role, false), role <= 1 ? V : -1);
            CHECK.due("of the first two, end of " + role, y.trusted(role, true), role <= 1 ? END : -1);
        }
    }

    private static void trustedVersionsAndEnds() {
        int[][] pairs = {{1, 0}, {1, 1}, {127, 255}, {128, 256}, {255, 65535}, {255, 0xFF00}};
        for (int[] pair : pairs) {
            Client x = SCENE.withRoot(Scene.root(pair[0], pair[1]));
            CHECK.due("version " + pair[0], x.trusted(0, false), pair[0]);
            CHECK.due("end " + pair[1], x.trusted(0, true), pair[1]);
            x.alter(1, 77);
            x.alter(2, 1);
            CHECK.due("the draft is another thing: version", x.trusted(0, false), pair[0]);
            CHECK.due("the draft is another thing: end", x.trusted(0, true), pair[1]);
        }
        Client x = ticked(SCENE.whole(), END);
        CHECK.due("what has ended is trusted still", x.trusted(6, false), V);
        CHECK.due("with its end", x.trusted(6, true), END);
    }
}
