import java.util.function.Function;
import java.util.function.Supplier;

/** Makes clients that trust a chain: versions 5, ends 1000, keys 0 to 3 for ROOT to TARGETS. */
final class Scene {
    static final int VERSION = 5;
    static final int END = 1000;

    private final Check check;

    Scene(Check check) {
        this.check = check;
    }

    static Paper root(int version, int end) {
        return Paper.root(version, end, 0, 1, 2, 3);
    }

    /** The usual snapshot: each of the roles 3 .. 6 at version 5. */
    static Paper snapshot() {
        return Paper.snapshot(VERSION, END, 3, 5, 4, 5, 5, 5, 6, 5).signed(2);
    }

    static Paper stamp(Paper snapshot) {
        return Paper.stamp(VERSION, END, snapshot).signed(1);
    }

    /** The head of a document of version 5. */
    static Paper head(int role) {
        return Paper.head(role, VERSION, END);
    }

    /** A document of the role with no targets and no delegations. */
    static Paper empty(int role) {
        return head(role).add(0, 0);
    }

    Client withRoot() {
        return withRoot(root(VERSION, END));
    }

    Client withRoot(Paper root) {
        Client x = new Client();
        check.due("the scene's root", root.signed(0).begunBy(x), "begun");
        return x;
    }

    Client withStamp(Paper snapshot) {
        Client x = withRoot();
        offered(x, stamp(snapshot), 1);
        return x;
    }

    Client withSnapshot() {
        return withSnapshot(snapshot());
    }

    Client withSnapshot(Paper snapshot) {
        Client x = withStamp(snapshot);
        offered(x, snapshot, 2);
        return x;
    }

    /** Each paper is to be signed but for its signatures. */
    Client withTargets(Paper targets) {
        Client x = withSnapshot();
        offered(x, targets, 3);
        return x;
    }

    /**
     * All roles: TARGETS have "a" and delegate "b" to role 4 (key 4) and all to role 5 (key 5);
     * role 4 has "ba", role 5 has "c" and delegates all to role 6 (key 6), which has "d".
     * The content of each target is its name.
     */
    Client whole() {
        Client x = withTargets(head(3).add(1).target("a", "a").add(2)
                .delegation(4, 0, 1, 4, "b").delegation(5, 0, 1, 5, "").signed(3));
        offered(x, head(4).add(1).target("ba", "ba").add(0).signed(4), 4);
        offered(x, head(5).add(1).target("c", "c").add(1).delegation(6, 0, 1, 6, "").signed(5), 5);
        offered(x, head(6).add(1).target("d", "d").add(0).signed(6), 6);
        return x;
    }

    void offered(Client x, Paper paper, int role) {
        check.due("the scene's document of role " + role, paper.offeredTo(x), role);
    }

    /**
     * What the object answers to a row of calls that reach what it trusts in every part. They
     * change it, so that nothing else is asked of it behind them.
     */
    String probe(Client x) {
        StringBuilder answers = new StringBuilder(x.sight());
        for (String name : new String[] {"a", "ba", "c", "d", "bb"}) {
            answers.append("; seek ").append(name).append(' ').append(Check.answerOf(() -> x.seek(name)));
            answers.append(" with ").append(x.visits());
        }
        x.keep("c");
        answers.append("; install ").append(Check.answerOf(() -> x.install("c")));
        Paper old = Paper.snapshot(VERSION, END, 3, 4).signed(2);
        Paper[] papers = {
            snapshot(), stamp(snapshot()), old, stamp(old), old, empty(3).signed(3), empty(4).signed(),
            root(VERSION + 1, END).signed(0),
        };
        for (Paper paper : papers) {
            answers.append("; offer ").append(paper.offeredTo(x));
        }
        return answers.append("; ").append(x.sight()).toString();
    }

    /** The offer must throw so, and leave the client as one is that got the draft alone. */
    void refuses(String what, Supplier<Client> scene, Paper paper, String want) {
        refuses(what, scene, paper, x -> x.offer(), want);
    }

    void refuses(String what, Supplier<Client> scene, Paper paper, Function<Client, Object> call, String want) {
        Client x = paper.into(scene.get());
        Client untouched = paper.into(scene.get());
        check.answers(what, () -> call.apply(x), want);
        check.due(what + ": what it answers behind it", probe(x), probe(untouched));
    }

    /** The offer to a client that goes on to be used must throw so, and leave what can be seen of it. */
    void refused(String what, Client x, Paper paper, String want) {
        paper.into(x);
        check.refused(what, x, x::offer, want);
    }

    /** The offer must be taken: the document is trusted for its role, and the others are as before. */
    void takes(String what, Client x, Paper paper) {
        int role = paper.bytes()[0];
        String others = othersThan(role, x);
        check.due(what, paper.offeredTo(x), role);
        check.due(what + ": its version", x.trusted(role, false), paper.bytes()[1]);
        check.due(what + ": its end", x.trusted(role, true), paper.bytes()[2] << 8 | paper.bytes()[3]);
        check.due(what + ": the others", othersThan(role, x), others);
    }

    private static String othersThan(int role, Client x) {
        StringBuilder seen = new StringBuilder();
        for (int other = 0; other <= 6; other++) {
            if (other != role) {
                seen.append(' ').append(x.trusted(other, false)).append('/').append(x.trusted(other, true));
            }
        }
        return seen.toString();
    }
}
