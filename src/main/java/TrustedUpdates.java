import java.util.NoSuchElementException;

/** A client that trusts only documents that are signed, recent and not past their end. */
public final class TrustedUpdates {
    public static final int NONE = -1;

    private static final int ROOT = 0;
    private static final int STAMP = 1;
    private static final int SNAPSHOT = 2;
    private static final int TARGETS = 3;
    private static final int FIRST_DELEGATE = 4;
    private static final int LAST_ROLE = 6;

    private static final int MOST_BYTES = 120;
    private static final int KEYS = 10;
    private static final int MOST_KEYS_IN_SET = 4;
    private static final int MOST_SIGNATURES = 6;
    private static final int SIGNATURE_BYTES = 5;
    private static final int MOST_ENTRIES = 4;
    private static final int MOST_TARGETS = 4;
    private static final int MOST_DELEGATIONS = 3;
    private static final int MOST_LETTERS = 4;
    private static final int MOST_PREFIX_LETTERS = 3;
    private static final int MOST_TICK = 10000;
    private static final int BODY_AT = 4;

    /** What visit() answers when a final delegation has ended the whole seek. */
    private static final int OVER = -2;

    private final Document draft;
    private final Row kept;
    private final Document[] documents;
    private int clock;
    private int visited;
    private int visits;
    private int installed;

    public TrustedUpdates() {
        draft = new Document();
        kept = new Row();
        documents = new Document[LAST_ROLE + 1];
        for (int role = 0; role <= LAST_ROLE; role++) {
            documents[role] = new Document();
        }
    }

    public boolean put(long w, int n) {
        if (n < 1 || n > 8 || !draft.row.hasRoom(n)) {
            return false;
        }
        for (int i = 0; i < n; i++) {
            draft.row.add(byteOf(w, i));
        }
        return true;
    }

    public boolean cut(int n) {
        if (n < 0 || n > draft.row.size) {
            return false;
        }
        draft.row.size = n;
        return true;
    }

    public boolean alter(int i, int v) {
        if (!draft.row.has(i)) {
            return false;
        }
        draft.row.change(i, v);
        return true;
    }

    public int length() {
        return draft.row.size;
    }

    public int at(int i) throws IndexOutOfBoundsException {
        if (!draft.row.has(i)) {
            throw new IndexOutOfBoundsException();
        }
        return draft.row.get(i);
    }

    public int mix(int s) {
        return draft.row.mixOf(s, draft.row.size);
    }

    public boolean digest() {
        if (!draft.row.hasRoom(4)) {
            return false;
        }
        draft.row.addFour(kept.ownDigest());
        return true;
    }

    public int sign(int key)
            throws IndexOutOfBoundsException, IllegalArgumentException, UnsupportedOperationException {
        if (key < 0 || key >= KEYS) {
            throw new IndexOutOfBoundsException();
        }
        draft.parse();
        boolean bare = draft.isBare();
        if (!bare && !draft.isWhole()) {
            throw new IllegalArgumentException();
        }
        int count = bare ? 0 : draft.signatureCount();
        int added = bare ? SIGNATURE_BYTES + 1 : SIGNATURE_BYTES;
        if (count >= MOST_SIGNATURES || !draft.row.hasRoom(added)) {
            throw new UnsupportedOperationException();
        }
        if (bare) {
            draft.row.add(0);
        }
        draft.addSignature(key);
        return count + 1;
    }

    public int content() {
        kept.copyFrom(draft.row);
        return kept.size;
    }

    public int tick(int n) throws IllegalArgumentException {
        if (n < 0 || n > MOST_TICK) {
            throw new IllegalArgumentException();
        }
        clock += n;
        return clock;
    }

    public void begin() throws IllegalArgumentException {
        draft.parse();
        if (!draft.isWhole() || draft.role() != ROOT) {
            throw new IllegalArgumentException();
        }
        for (int role = 0; role <= LAST_ROLE; role++) {
            documents[role].drop();
        }
        documents[ROOT].copyFrom(draft);
    }

    public int offer() throws IllegalArgumentException, IndexOutOfBoundsException,
            IllegalStateException, UnsupportedOperationException, NoSuchElementException {
        draft.parse();
        if (!draft.isWhole()) {
            throw new IllegalArgumentException();
        }
        int role = draft.role();
        if (!hasWhatMustBeThere(role)) {
            throw new IndexOutOfBoundsException();
        }
        if (!isDraftVouchedFor(role)) {
            throw new IllegalStateException();
        }
        if (!doVersionsFit(role)) {
            throw new UnsupportedOperationException();
        }
        if (role != ROOT && draft.end() <= clock) {
            throw new NoSuchElementException();
        }
        trustDraft(role);
        return role;
    }

    public int trusted(int role, boolean ends) throws IndexOutOfBoundsException {
        if (role < ROOT || role > LAST_ROLE) {
            throw new IndexOutOfBoundsException();
        }
        Document document = documents[role];
        if (!document.isThere()) {
            return NONE;
        }
        return ends ? document.end() : document.version();
    }

    public int seek(long w, int n) throws IllegalArgumentException, IllegalStateException {
        if (!isName(w, n)) {
            throw new IllegalArgumentException();
        }
        if (!canSeek()) {
            throw new IllegalStateException();
        }
        int role = roleThatHas(w, n);
        visits = Integer.bitCount(visited);
        return role;
    }

    public int visits() {
        return visits;
    }

    public int install(long w, int n) throws IllegalArgumentException, IllegalStateException,
            NoSuchElementException, UnsupportedOperationException {
        if (!isName(w, n)) {
            throw new IllegalArgumentException();
        }
        if (!canSeek()) {
            throw new IllegalStateException();
        }
        int role = roleThatHas(w, n);
        if (role == NONE) {
            throw new NoSuchElementException();
        }
        if (!documents[role].describes(w, n, kept)) {
            throw new UnsupportedOperationException();
        }
        visits = Integer.bitCount(visited);
        installed++;
        return role;
    }

    public int installed() {
        return installed;
    }

    private static int byteOf(long w, int i) {
        return (int) (w >>> (8 * i)) & 255;
    }

    private static boolean isLetter(int b) {
        return b >= 'a' && b <= 'z';
    }

    private static boolean isName(long w, int n) {
        if (n < 1 || n > MOST_LETTERS) {
            return false;
        }
        for (int i = 0; i < n; i++) {
            if (!isLetter(byteOf(w, i))) {
                return false;
            }
        }
        return true;
    }

    private boolean isInForce(int role) {
        return documents[role].isThere() && documents[role].end() > clock;
    }

    private boolean isFresh(int role) {
        return isInForce(role)
                && documents[role].version() == documents[SNAPSHOT].entryFor(role);
    }

    private boolean hasWhatMustBeThere(int role) {
        if (role == ROOT) {
            // A root past its end can still hand over to the next one.
            return documents[ROOT].isThere();
        }
        if (!isInForce(ROOT)) {
            return false;
        }
        if (role == STAMP) {
            return true;
        }
        if (role == SNAPSHOT) {
            return isInForce(STAMP);
        }
        return isInForce(SNAPSHOT) && documents[SNAPSHOT].entryFor(role) != NONE;
    }

    private boolean isDraftVouchedFor(int role) {
        if (role >= FIRST_DELEGATE) {
            // Whoever delegates names the keys, so they are looked at in a seek only.
            return true;
        }
        Document root = documents[ROOT];
        if (!draft.isSignedBy(root, root.keySetAt(role))) {
            return false;
        }
        return role != ROOT || draft.isSignedBy(draft, draft.keySetAt(ROOT));
    }

    private boolean doVersionsFit(int role) {
        switch (role) {
            case ROOT:
                return draft.version() == documents[ROOT].version() + 1;
            case STAMP:
                return isStampNotOlder();
            case SNAPSHOT:
                return isSnapshotOfStamp() && isSnapshotNotOlder();
            default:
                return draft.version() == documents[SNAPSHOT].entryFor(role);
        }
    }

    private boolean isStampNotOlder() {
        Document old = documents[STAMP];
        if (!old.isThere()) {
            return true;
        }
        return draft.version() >= old.version()
                && draft.stampedVersion() >= old.stampedVersion();
    }

    private boolean isSnapshotOfStamp() {
        Document stamp = documents[STAMP];
        return draft.version() == stamp.stampedVersion()
                && draft.row.ownDigest() == stamp.stampedDigest();
    }

    private boolean isSnapshotNotOlder() {
        Document old = documents[SNAPSHOT];
        if (!old.isThere()) {
            return true;
        }
        for (int role = TARGETS; role <= LAST_ROLE; role++) {
            // A role that the old one lacks has NONE there, below every version.
            if (draft.entryFor(role) < old.entryFor(role)) {
                return false;
            }
        }
        return true;
    }

    private void trustDraft(int role) {
        if (role == ROOT && doesDraftChangeKeys()) {
            documents[STAMP].drop();
            documents[SNAPSHOT].drop();
        }
        documents[role].copyFrom(draft);
    }

    private boolean doesDraftChangeKeys() {
        return !draft.hasSameKeySet(documents[ROOT], STAMP)
                || !draft.hasSameKeySet(documents[ROOT], SNAPSHOT);
    }

    private boolean canSeek() {
        return isInForce(ROOT) && isInForce(STAMP) && isInForce(SNAPSHOT) && isFresh(TARGETS);
    }

    private int roleThatHas(long w, int n) {
        visited = 0;
        int found = visit(TARGETS, w, n, LAST_ROLE - TARGETS);
        return found == OVER ? NONE : found;
    }

    /** The role that has the target, NONE, or OVER; deeper is how many levels may come below. */
    private int visit(int role, long w, int n, int deeper) {
        visited |= 1 << role;
        Document document = documents[role];
        if (document.targetAt(w, n) != NONE) {
            return role;
        }
        int count = document.row.get(document.delegationsAt);
        int p = document.delegationsAt + 1;
        for (int i = 0; i < count; i++) {
            if (deeper > 0 && leadsOn(document, p, w, n)) {
                int found = visit(document.row.get(p), w, n, deeper - 1);
                if (found != NONE) {
                    return found;
                }
                if (document.isFinalAt(p)) {
                    return OVER;
                }
            }
            p = document.afterDelegation(p);
        }
        return NONE;
    }

    private boolean leadsOn(Document document, int p, long w, int n) {
        int role = document.row.get(p);
        if (role < FIRST_DELEGATE || role > LAST_ROLE || (visited & (1 << role)) != 0) {
            return false;
        }
        int keySet = p + 2;
        return document.isPrefixAt(document.afterKeySet(keySet), w, n)
                && isFresh(role)
                && documents[role].isSignedBy(document, keySet);
    }

    /** Bytes in a room of their own, each 0 .. 255. */
    private static final class Row {
        private final int[] bytes;
        private int size;

        Row() {
            bytes = new int[MOST_BYTES];
        }

        boolean has(int i) {
            return i >= 0 && i < size;
        }

        boolean hasRoom(int n) {
            return n <= MOST_BYTES - size;
        }

        /** NONE where there is no byte, so that no test of a value takes it for one. */
        int get(int i) {
            return i >= 0 && i < size ? bytes[i] : NONE;
        }

        int getFour(int i) {
            return get(i) << 24 | get(i + 1) << 16 | get(i + 2) << 8 | get(i + 3);
        }

        void change(int i, int v) {
            if (has(i)) {
                bytes[i] = v & 255;
            }
        }

        void add(int v) {
            if (hasRoom(1)) {
                bytes[size] = v & 255;
                size++;
            }
        }

        void addFour(int v) {
            add(v >>> 24);
            add(v >>> 16);
            add(v >>> 8);
            add(v);
        }

        void copyFrom(Row other) {
            System.arraycopy(other.bytes, 0, bytes, 0, other.size);
            size = other.size;
        }

        int mixOf(int s, int count) {
            int h = s * 0x9E3779B9;
            int stop = Math.min(count, size);
            for (int i = 0; i < stop; i++) {
                h = (h ^ bytes[i]) * 0x01000193;
                h ^= h >>> 15;
            }
            return h;
        }

        int ownDigest() {
            return mixOf(0, size);
        }
    }

    /**
     * A row read as a document. The methods named after... answer the place behind a part that
     * begins at p, or NONE when there is no such part; a p of NONE gives NONE again.
     */
    private static final class Document {
        private final Row row;
        private int delegationsAt;
        private int signedSize;

        Document() {
            row = new Row();
            delegationsAt = NONE;
            signedSize = NONE;
        }

        boolean isThere() {
            return row.size > 0;
        }

        void drop() {
            row.size = 0;
            delegationsAt = NONE;
            signedSize = NONE;
        }

        void copyFrom(Document other) {
            row.copyFrom(other.row);
            delegationsAt = other.delegationsAt;
            signedSize = other.signedSize;
        }

        int role() {
            return row.get(0);
        }

        int version() {
            return row.get(1);
        }

        int end() {
            return row.get(2) << 8 | row.get(3);
        }

        /** Finds the parts that later calls need; to be called anew whenever the row may have changed. */
        void parse() {
            delegationsAt = NONE;
            signedSize = NONE;
            if (version() < 1) {
                return;
            }
            switch (role()) {
                case ROOT:
                    signedSize = afterRootBody(BODY_AT);
                    break;
                case STAMP:
                    signedSize = afterStampBody(BODY_AT);
                    break;
                case SNAPSHOT:
                    signedSize = afterSnapshotBody(BODY_AT);
                    break;
                default:
                    if (role() >= TARGETS && role() <= LAST_ROLE) {
                        delegationsAt = afterTargets(BODY_AT);
                        signedSize = afterDelegations(delegationsAt);
                    }
                    break;
            }
        }

        boolean isBare() {
            return signedSize == row.size;
        }

        boolean isWhole() {
            int count = signatureCount();
            if (count < 0 || count > MOST_SIGNATURES) {
                return false;
            }
            for (int i = 0; i < count; i++) {
                if (row.get(signatureAt(i)) >= KEYS) {
                    return false;
                }
            }
            return signatureAt(count) == row.size;
        }

        int signatureCount() {
            return signedSize == NONE ? NONE : row.get(signedSize);
        }

        private int signatureAt(int i) {
            return signedSize + 1 + SIGNATURE_BYTES * i;
        }

        void addSignature(int key) {
            row.change(signedSize, row.get(signedSize) + 1);
            row.add(key);
            row.addFour(row.mixOf(key + 1, signedSize));
        }

        private boolean hasSignatureOf(int key) {
            int due = row.mixOf(key + 1, signedSize);
            int count = signatureCount();
            for (int i = 0; i < count; i++) {
                int p = signatureAt(i);
                if (row.get(p) == key && row.getFour(p + 1) == due) {
                    return true;
                }
            }
            return false;
        }

        /** Whether the threshold of the key set at p of the other document is reached. */
        boolean isSignedBy(Document other, int p) {
            int threshold = other.row.get(p);
            int count = other.row.get(p + 1);
            int signers = 0;
            for (int i = 0; i < count; i++) {
                if (hasSignatureOf(other.row.get(p + 2 + i))) {
                    signers++;
                }
            }
            return signers >= threshold;
        }

        int keySetAt(int role) {
            int p = BODY_AT;
            for (int i = ROOT; i < role; i++) {
                p = afterKeySet(p);
            }
            return p;
        }

        boolean hasSameKeySet(Document other, int role) {
            int mine = keySetAt(role);
            int theirs = other.keySetAt(role);
            int bytes = 2 + row.get(mine + 1);
            for (int i = 0; i < bytes; i++) {
                if (row.get(mine + i) != other.row.get(theirs + i)) {
                    return false;
                }
            }
            return true;
        }

        int stampedVersion() {
            return row.get(BODY_AT);
        }

        int stampedDigest() {
            return row.getFour(BODY_AT + 1);
        }

        /** The version that a snapshot says for a role, or NONE. */
        int entryFor(int role) {
            int count = row.get(BODY_AT);
            for (int i = 0; i < count; i++) {
                int p = BODY_AT + 1 + 2 * i;
                if (row.get(p) == role) {
                    return row.get(p + 1);
                }
            }
            return NONE;
        }

        int targetAt(long w, int n) {
            int count = row.get(BODY_AT);
            int p = BODY_AT + 1;
            for (int i = 0; i < count; i++) {
                if (row.get(p) == n && isPrefixAt(p, w, n)) {
                    return p;
                }
                p = afterTarget(p);
            }
            return NONE;
        }

        boolean describes(long w, int n, Row content) {
            int p = targetAt(w, n);
            if (p == NONE) {
                return false;
            }
            int rest = p + 1 + n;
            return row.get(rest) == content.size && row.getFour(rest + 1) == content.ownDigest();
        }

        boolean isFinalAt(int p) {
            return row.get(p + 1) == 1;
        }

        /** Whether the name begins with the letters that stand at p behind their number. */
        boolean isPrefixAt(int p, long w, int n) {
            int count = row.get(p);
            if (count < 0 || count > n) {
                return false;
            }
            for (int i = 0; i < count; i++) {
                if (row.get(p + 1 + i) != byteOf(w, i)) {
                    return false;
                }
            }
            return true;
        }

        private int afterRootBody(int p) {
            int q = p;
            for (int role = ROOT; role <= TARGETS; role++) {
                q = afterKeySet(q);
            }
            return q;
        }

        private int afterStampBody(int p) {
            boolean fits = row.get(p) >= 1 && row.has(p + 4);
            return fits ? p + 5 : NONE;
        }

        private int afterSnapshotBody(int p) {
            int count = row.get(p);
            if (count < 1 || count > MOST_ENTRIES || row.get(p + 1) != TARGETS) {
                return NONE;
            }
            int before = NONE;
            for (int i = 0; i < count; i++) {
                int role = row.get(p + 1 + 2 * i);
                if (role <= before || role > LAST_ROLE || row.get(p + 2 + 2 * i) < 1) {
                    return NONE;
                }
                before = role;
            }
            return p + 1 + 2 * count;
        }

        int afterKeySet(int p) {
            int threshold = row.get(p);
            int count = row.get(p + 1);
            if (threshold < 1 || count < threshold || count > MOST_KEYS_IN_SET) {
                return NONE;
            }
            int before = NONE;
            for (int i = 0; i < count; i++) {
                int key = row.get(p + 2 + i);
                if (key <= before || key >= KEYS) {
                    return NONE;
                }
                before = key;
            }
            return p + 2 + count;
        }

        private int afterTargets(int p) {
            int count = row.get(p);
            if (count < 0 || count > MOST_TARGETS) {
                return NONE;
            }
            int q = p + 1;
            for (int i = 0; i < count; i++) {
                if (isWordAmong(q, p + 1, i)) {
                    return NONE;
                }
                q = afterTarget(q);
            }
            return q;
        }

        private boolean isWordAmong(int word, int firstTarget, int count) {
            int p = firstTarget;
            for (int i = 0; i < count; i++) {
                if (isSameWord(p, word)) {
                    return true;
                }
                p = afterTarget(p);
            }
            return false;
        }

        private boolean isSameWord(int p, int q) {
            int letters = row.get(p);
            for (int i = 0; i <= letters; i++) {
                if (row.get(p + i) != row.get(q + i)) {
                    return false;
                }
            }
            return true;
        }

        private int afterTarget(int p) {
            int q = afterWord(p, 1, MOST_LETTERS);
            return q != NONE && row.has(q + 4) ? q + 5 : NONE;
        }

        private int afterDelegations(int p) {
            int count = row.get(p);
            if (count < 0 || count > MOST_DELEGATIONS) {
                return NONE;
            }
            int roles = 0;
            int q = p + 1;
            for (int i = 0; i < count; i++) {
                int bit = 1 << row.get(q);
                q = afterDelegation(q);
                if (q == NONE || (roles & bit) != 0) {
                    return NONE;
                }
                roles |= bit;
            }
            return q;
        }

        int afterDelegation(int p) {
            int role = row.get(p);
            int last = row.get(p + 1);
            if (role < FIRST_DELEGATE || role > LAST_ROLE || last < 0 || last > 1) {
                return NONE;
            }
            return afterWord(afterKeySet(p + 2), 0, MOST_PREFIX_LETTERS);
        }

        private int afterWord(int p, int least, int most) {
            int count = row.get(p);
            if (count < least || count > most) {
                return NONE;
            }
            for (int i = 1; i <= count; i++) {
                if (!isLetter(row.get(p + i))) {
                    return NONE;
                }
            }
            return p + 1 + count;
        }
    }
}
