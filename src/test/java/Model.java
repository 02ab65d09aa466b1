import java.util.ArrayList;
import java.util.HashSet;
import java.util.List;
import java.util.NoSuchElementException;
import java.util.Set;
import java.util.TreeMap;

/** The document written a second time, with parsed objects and the library, to compare with. */
final class Model {
    record KeySet(int threshold, List<Integer> keys) { }

    record Target(String name, int length, int digest) { }

    record Delegation(int role, boolean last, KeySet keySet, String prefix) { }

    record Signature(int key, int value) { }

    static final class Malformed extends Exception {
        private static final long serialVersionUID = 1L;
    }

    static final class Found extends Exception {
        private static final long serialVersionUID = 1L;
        final int role;
        final transient Target target;

        Found(int role, Target target) {
            this.role = role;
            this.target = target;
        }
    }

    static final class Over extends Exception {
        private static final long serialVersionUID = 1L;
    }

    static final class Doc {
        int role;
        int version;
        int end;
        final List<KeySet> keySets = new ArrayList<>();
        int snapshotVersion;
        int snapshotDigest;
        final TreeMap<Integer, Integer> entries = new TreeMap<>();
        final List<Target> targets = new ArrayList<>();
        final List<Delegation> delegations = new ArrayList<>();
        final List<Signature> signatures = new ArrayList<>();
        List<Integer> signedPart;
        List<Integer> whole;

        boolean meets(KeySet set) {
            Set<Integer> signers = new HashSet<>();
            for (Signature s : signatures) {
                if (set.keys.contains(s.key) && s.value == mix(signedPart, s.key + 1)) {
                    signers.add(s.key);
                }
            }
            return signers.size() >= set.threshold;
        }
    }

    private static final class Reader {
        private final List<Integer> row;
        private int next = 0;

        Reader(List<Integer> row) {
            this.row = row;
        }

        int number(int least, int most) throws Malformed {
            if (next >= row.size()) {
                throw new Malformed();
            }
            int v = row.get(next++);
            if (v < least || v > most) {
                throw new Malformed();
            }
            return v;
        }

        int four() throws Malformed {
            int v = 0;
            for (int i = 0; i < 4; i++) {
                v = v << 8 | number(0, 255);
            }
            return v;
        }

        String word(int least, int most) throws Malformed {
            StringBuilder letters = new StringBuilder();
            for (int n = number(least, most); n > 0; n--) {
                letters.append((char) number('a', 'z'));
            }
            return letters.toString();
        }

        KeySet keySet() throws Malformed {
            int threshold = number(1, 255);
            int count = number(Math.max(1, threshold), 4);
            List<Integer> keys = new ArrayList<>();
            int least = 0;
            for (int i = 0; i < count; i++) {
                int key = number(least, 9);
                keys.add(key);
                least = key + 1;
            }
            return new KeySet(threshold, keys);
        }

        Doc signedPart() throws Malformed {
            Doc d = new Doc();
            d.role = number(0, 6);
            d.version = number(1, 255);
            d.end = number(0, 255) * 256 + number(0, 255);
            if (d.role == 0) {
                for (int i = 0; i < 4; i++) {
                    d.keySets.add(keySet());
                }
            } else if (d.role == 1) {
                d.snapshotVersion = number(1, 255);
                d.snapshotDigest = four();
            } else if (d.role == 2) {
                entries(d);
            } else {
                targets(d);
                delegations(d);
            }
            d.signedPart = List.copyOf(row.subList(0, next));
            return d;
        }

        private void entries(Doc d) throws Malformed {
            int least = 3;
            for (int n = number(1, 4); n > 0; n--) {
                int role = number(least, d.entries.isEmpty() ? 3 : 6);
                d.entries.put(role, number(1, 255));
                least = role + 1;
            }
        }

        private void targets(Doc d) throws Malformed {
            Set<String> names = new HashSet<>();
            for (int n = number(0, 4); n > 0; n--) {
                Target t = new Target(word(1, 4), number(0, 255), four());
                if (!names.add(t.name)) {
                    throw new Malformed();
                }
                d.targets.add(t);
            }
        }

        private void delegations(Doc d) throws Malformed {
            Set<Integer> roles = new HashSet<>();
            for (int n = number(0, 3); n > 0; n--) {
                Delegation g = new Delegation(number(4, 6), number(0, 1) == 1, keySet(), word(0, 3));
                if (!roles.add(g.role)) {
                    throw new Malformed();
                }
                d.delegations.add(g);
            }
        }

        Doc document() throws Malformed {
            Doc d = signedPart();
            for (int n = number(0, 6); n > 0; n--) {
                d.signatures.add(new Signature(number(0, 9), four()));
            }
            if (next != row.size()) {
                throw new Malformed();
            }
            d.whole = List.copyOf(row);
            return d;
        }
    }

    private final List<Integer> draft = new ArrayList<>();
    private List<Integer> kept = List.of();
    private final TreeMap<Integer, Doc> docs = new TreeMap<>();
    private int clock = 0;
    private int visits = 0;
    private int installed = 0;
    private final Set<Integer> visited = new HashSet<>();

    static int mix(List<Integer> row, int s) {
        int h = s * 0x9E3779B9;
        for (int b : row) {
            h = (h ^ b) * 0x01000193;
            h = h ^ (h >>> 15);
        }
        return h;
    }

    private static List<Integer> four(int v) {
        return List.of(v >>> 24, v >>> 16 & 255, v >>> 8 & 255, v & 255);
    }

    boolean put(long w, int n) {
        if (n < 1 || n > 8 || draft.size() + n > 120) {
            return false;
        }
        for (int i = 0; i < n; i++) {
            draft.add((int) (w & 255));
            w >>= 8;
        }
        return true;
    }

    boolean cut(int n) {
        if (n < 0 || n > draft.size()) {
            return false;
        }
        draft.subList(n, draft.size()).clear();
        return true;
    }

    boolean alter(int i, int v) {
        if (i < 0 || i >= draft.size()) {
            return false;
        }
        draft.set(i, v & 255);
        return true;
    }

    int length() {
        return draft.size();
    }

    int at(int i) {
        if (i < 0 || i >= draft.size()) {
            throw new IndexOutOfBoundsException();
        }
        return draft.get(i);
    }

    int mix(int s) {
        return mix(draft, s);
    }

    boolean digest() {
        if (draft.size() + 4 > 120) {
            return false;
        }
        draft.addAll(four(mix(kept, 0)));
        return true;
    }

    int sign(int key) {
        if (key < 0 || key > 9) {
            throw new IndexOutOfBoundsException();
        }
        Doc d;
        boolean bare;
        try {
            d = new Reader(draft).signedPart();
            bare = d.signedPart.size() == draft.size();
            if (!bare) {
                d = new Reader(draft).document();
            }
        } catch (Malformed e) {
            throw new IllegalArgumentException();
        }
        int count = d.signatures.size();
        if (count == 6 || draft.size() + (bare ? 6 : 5) > 120) {
            throw new UnsupportedOperationException();
        }
        if (bare) {
            draft.add(1);
        } else {
            draft.set(d.signedPart.size(), count + 1);
        }
        draft.add(key);
        draft.addAll(four(mix(d.signedPart, key + 1)));
        return count + 1;
    }

    int content() {
        kept = List.copyOf(draft);
        return kept.size();
    }

    int tick(int n) {
        if (n < 0 || n > 10000) {
            throw new IllegalArgumentException();
        }
        clock += n;
        return clock;
    }

    private Doc draftAsDocument() {
        try {
            return new Reader(draft).document();
        } catch (Malformed e) {
            throw new IllegalArgumentException();
        }
    }

    Object begin() {
        Doc d = draftAsDocument();
        if (d.role != 0) {
            throw new IllegalArgumentException();
        }
        docs.clear();
        docs.put(0, d);
        return "begun";
    }

    private void need(int role) {
        if (!docs.containsKey(role) || docs.get(role).end <= clock) {
            throw new IndexOutOfBoundsException();
        }
    }

    private static void mustBeSigned(boolean so) {
        if (!so) {
            throw new IllegalStateException();
        }
    }

    private static void mustFit(boolean so) {
        if (!so) {
            throw new UnsupportedOperationException();
        }
    }

    int offer() {
        Doc d = draftAsDocument();
        if (d.role == 0) {
            offerRoot(d);
        } else {
            need(0);
            if (d.role == 1) {
                checkStamp(d);
            } else if (d.role == 2) {
                checkSnapshot(d);
            } else {
                checkTargets(d);
            }
            if (d.end <= clock) {
                throw new NoSuchElementException();
            }
        }
        docs.put(d.role, d);
        return d.role;
    }

    private void offerRoot(Doc d) {
        Doc old = docs.get(0);
        if (old == null) {
            throw new IndexOutOfBoundsException();
        }
        mustBeSigned(d.meets(old.keySets.get(0)) && d.meets(d.keySets.get(0)));
        mustFit(d.version == old.version + 1);
        if (!d.keySets.subList(1, 3).equals(old.keySets.subList(1, 3))) {
            docs.remove(1);
            docs.remove(2);
        }
    }

    private void checkStamp(Doc d) {
        mustBeSigned(d.meets(docs.get(0).keySets.get(1)));
        Doc old = docs.get(1);
        mustFit(old == null
                || d.version >= old.version && d.snapshotVersion >= old.snapshotVersion);
    }

    private void checkSnapshot(Doc d) {
        need(1);
        mustBeSigned(d.meets(docs.get(0).keySets.get(2)));
        Doc stamp = docs.get(1);
        mustFit(d.version == stamp.snapshotVersion && mix(d.whole, 0) == stamp.snapshotDigest);
        if (docs.containsKey(2)) {
            docs.get(2).entries.forEach((role, version) ->
                    mustFit(d.entries.containsKey(role) && d.entries.get(role) >= version));
        }
    }

    private void checkTargets(Doc d) {
        need(2);
        Integer version = docs.get(2).entries.get(d.role);
        if (version == null) {
            throw new IndexOutOfBoundsException();
        }
        if (d.role == 3) {
            mustBeSigned(d.meets(docs.get(0).keySets.get(3)));
        }
        mustFit(d.version == version);
    }

    int trusted(int role, boolean ends) {
        if (role < 0 || role > 6) {
            throw new IndexOutOfBoundsException();
        }
        Doc d = docs.get(role);
        return d == null ? -1 : ends ? d.end : d.version;
    }

    private boolean inForce(int role) {
        return docs.containsKey(role) && docs.get(role).end > clock;
    }

    private boolean fresh(int role) {
        return inForce(role) && Integer.valueOf(docs.get(role).version)
                .equals(docs.get(2).entries.get(role));
    }

    private String name(long w, int n) {
        if (n < 1 || n > 4) {
            throw new IllegalArgumentException();
        }
        StringBuilder name = new StringBuilder();
        for (int i = 0; i < n; i++) {
            name.append((char) (w >> 8 * i & 255));
        }
        if (!name.toString().matches("[a-z]+")) {
            throw new IllegalArgumentException();
        }
        return name.toString();
    }

    private Found find(long w, int n) {
        String name = name(w, n);
        if (!inForce(0) || !inForce(1) || !inForce(2) || !fresh(3)) {
            throw new IllegalStateException();
        }
        visited.clear();
        try {
            visit(3, name);
        } catch (Found f) {
            return f;
        } catch (Over o) {
            return null;
        }
        return null;
    }

    private void visit(int role, String name) throws Found, Over {
        visited.add(role);
        for (Target t : docs.get(role).targets) {
            if (t.name.equals(name)) {
                throw new Found(role, t);
            }
        }
        for (Delegation g : docs.get(role).delegations) {
            if (name.startsWith(g.prefix) && !visited.contains(g.role) && fresh(g.role)
                    && docs.get(g.role).meets(g.keySet)) {
                visit(g.role, name);
                if (g.last) {
                    throw new Over();
                }
            }
        }
    }

    int seek(long w, int n) {
        Found f = find(w, n);
        visits = visited.size();
        return f == null ? -1 : f.role;
    }

    int visits() {
        return visits;
    }

    int install(long w, int n) {
        Found f = find(w, n);
        if (f == null) {
            throw new NoSuchElementException();
        }
        if (f.target.length != kept.size() || f.target.digest != mix(kept, 0)) {
            throw new UnsupportedOperationException();
        }
        visits = visited.size();
        installed++;
        return f.role;
    }

    int installed() {
        return installed;
    }
}
