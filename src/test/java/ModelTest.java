import java.util.ArrayList;
import java.util.List;
import java.util.Random;
import java.util.TreeMap;

/** Long runs of calls from fixed seeds; every answer is compared with the model's. */
public final class ModelTest {
    private static final int RUNS = 3000;
    private static final int STEPS = 60;
    private static final Check CHECK = new Check("ModelTest");
    private static final TreeMap<String, Integer> ANSWERS = new TreeMap<>();
    private static final int[][] USUAL_KEYS = {{0, 1}, {1, 2}, {2, 3}, {3, 4}};

    private final Random random;
    private final int run;
    private final Client x = new Client();
    private final Model model = new Model();
    private final List<String> calls = new ArrayList<>();
    private boolean careful = false;

    private ModelTest(int run) {
        this.run = run;
        this.random = new Random(run);
    }

    public static void main(String[] args) {
        for (int run = 0; run < RUNS && !CHECK.hasWrong(); run++) {
            new ModelTest(run).go();
        }
        for (String answer : wantedAnswers()) {
            CHECK.due("the runs meet " + answer, ANSWERS.containsKey(answer), true);
        }
        CHECK.end();
    }

    /** The runs must meet each of these, or they compare too little. */
    private static List<String> wantedAnswers() {
        List<String> wanted = new ArrayList<>();
        for (int role = 0; role <= 6; role++) {
            wanted.add("offer " + role + " " + role);
            wanted.add("offer " + role + " throws.IndexOutOfBoundsException");
            wanted.add("offer " + role + " throws.UnsupportedOperationException");
            wanted.add("offer " + role + " throws.IllegalArgumentException");
            if (role < 4) {
                wanted.add("offer " + role + " throws.IllegalStateException");
            }
            if (role > 0) {
                wanted.add("offer " + role + " throws.NoSuchElementException");
            }
        }
        for (String call : new String[] {"seek ", "install "}) {
            for (int role = 3; role <= 6; role++) {
                wanted.add(call + role);
            }
            wanted.add(call + "throws.IllegalArgumentException");
            wanted.add(call + "throws.IllegalStateException");
        }
        wanted.add("seek -1");
        wanted.add("install throws.NoSuchElementException");
        wanted.add("install throws.UnsupportedOperationException");
        wanted.add("sign throws.IllegalArgumentException");
        wanted.add("sign throws.IndexOutOfBoundsException");
        wanted.add("sign throws.UnsupportedOperationException");
        wanted.add("sign 6");
        for (int visits = 0; visits <= 4; visits++) {
            wanted.add("visits " + visits);
        }
        return wanted;
    }

    private void go() {
        beginWithRoot();
        for (int step = 0; step < STEPS && !CHECK.hasWrong(); step++) {
            step();
            if (oneIn(2)) {
                observe();
            }
        }
        if (CHECK.hasWrong()) {
            System.out.println("run " + run + ": " + String.join("; ", calls));
        }
    }

    /** Makes a call of both; those that the object is not good for any more are left out. */
    private void both(String kind, String call, Check.Call program, Check.Call due) {
        if (calls.size() == Client.MOST_CALLS) {
            return;
        }
        calls.add(call);
        Object want = Check.answerOf(due);
        CHECK.due("run " + run + ", call " + calls.size() + ", " + call, Check.answerOf(program), want);
        ANSWERS.merge(kind + " " + want, 1, Integer::sum);
    }

    private boolean oneIn(int n) {
        return random.nextInt(n) == 0;
    }

    /** Something goes wrong, but not while a whole chain is made. */
    private boolean faultIn(int n) {
        return !careful && oneIn(n);
    }

    private void step() {
        switch (random.nextInt(17)) {
            case 0 -> newRoot();
            case 1, 2, 3 -> newStampAndSnapshot();
            case 4, 5 -> newTargets(3);
            case 6, 7, 8 -> newTargets(4 + random.nextInt(3));
            case 9, 10, 11 -> seek();
            case 12 -> newContent();
            case 13 -> install();
            case 14 -> wholeChain();
            case 15 -> tick(oneIn(3) ? random.nextInt(40) : random.nextInt(3));
            default -> anyCall();
        }
    }

    private void observe() {
        for (int role = 0; role <= 6; role++) {
            int r = role;
            both("trusted", "trusted(" + r + ", false)", () -> x.trusted(r, false), () -> model.trusted(r, false));
            both("trusted", "trusted(" + r + ", true)", () -> x.trusted(r, true), () -> model.trusted(r, true));
        }
        both("length", "length()", x::length, model::length);
        both("mix", "mix(3)", () -> x.mix(3), () -> model.mix(3));
        both("visits", "visits()", x::visits, model::visits);
        both("installed", "installed()", x::installed, model::installed);
    }

    // Single calls

    private void tick(int n) {
        both("tick", "tick(" + n + ")", () -> x.tick(n), () -> model.tick(n));
    }

    private void put(long w, int n) {
        both("put", "put(" + w + "L, " + n + ")", () -> x.put(w, n), () -> model.put(w, n));
    }

    private void cut(int n) {
        both("cut", "cut(" + n + ")", () -> x.cut(n), () -> model.cut(n));
    }

    private void alter(int i, int v) {
        both("alter", "alter(" + i + ", " + v + ")", () -> x.alter(i, v), () -> model.alter(i, v));
    }

    private void sign(int key) {
        both("sign", "sign(" + key + ")", () -> x.sign(key), () -> model.sign(key));
    }

    private void digest() {
        both("digest", "digest()", x::digest, model::digest);
    }

    private void content() {
        both("content", "content()", x::content, model::content);
    }

    private void begin() {
        both("begin", "begin()", x::begin, model::begin);
    }

    private void offer() {
        String role = model.length() > 0 ? Integer.toString(model.at(0)) : "of nothing";
        both("offer " + role, "offer()", x::offer, model::offer);
    }

    private void seek(long w, int n) {
        both("seek", "seek(" + w + "L, " + n + ")", () -> x.seek(w, n), () -> model.seek(w, n));
    }

    private void install(long w, int n) {
        both("install", "install(" + w + "L, " + n + ")", () -> x.install(w, n), () -> model.install(w, n));
    }

    private void anyCall() {
        int i = random.nextInt(124) - 2;
        switch (random.nextInt(9)) {
            case 0 -> put(random.nextLong(), random.nextInt(11) - 1);
            case 1 -> cut(i);
            case 2 -> alter(i, random.nextInt());
            case 3 -> both("at", "at(" + i + ")", () -> x.at(i), () -> model.at(i));
            case 4 -> sign(random.nextInt(13) - 1);
            case 5 -> digest();
            case 6 -> begin();
            case 7 -> tick(oneIn(2) ? -1 : 10001);
            default -> offer();
        }
    }

    // Documents

    private void write(Paper paper) {
        cut(0);
        int[] bytes = paper.bytes();
        for (int i = 0; i < bytes.length; i += 8) {
            int n = Math.min(8, bytes.length - i);
            long w = 0;
            for (int j = n - 1; j >= 0; j--) {
                w = w << 8 | bytes[i + j];
            }
            put(w, n);
        }
        if (faultIn(25)) {
            alter(random.nextInt(Math.max(1, bytes.length)), oneIn(2) ? random.nextInt(8) : random.nextInt(256));
        }
    }

    private void signAll(int[] keys) {
        for (int key : keys) {
            if (!faultIn(12)) {
                sign(key);
            }
        }
        if (oneIn(8)) {
            sign(random.nextInt(10));
        }
        if (oneIn(40)) {
            for (int i = 0; i < 6; i++) {
                sign(random.nextInt(10));
            }
        }
    }

    private void spoil() {
        if (faultIn(30)) {
            put(random.nextInt(256), 1);
        } else if (faultIn(30)) {
            cut(Math.max(0, model.length() - 1 - random.nextInt(6)));
        } else if (faultIn(15)) {
            alter(random.nextInt(Math.max(1, model.length())), random.nextInt(256));
        }
    }

    private int end() {
        int clock = model.tick(0);
        return faultIn(10) ? Math.max(0, clock - 1 + random.nextInt(4)) : clock + 5 + random.nextInt(90);
    }

    private int near(int version) {
        int v = faultIn(8) ? version - 1 + random.nextInt(3) : version;
        return Math.max(0, Math.min(255, v));
    }

    private int trustedOr(int role, int other) {
        int version = model.trusted(role, false);
        return version < 0 ? other : version;
    }

    private void keySet(Paper paper, int[] keys) {
        if (oneIn(8)) {
            paper.set(1, keys[0]);
        } else {
            paper.set(oneIn(2) ? 1 : 2, keys);
        }
    }

    private Paper rootPaper(int version) {
        Paper paper = Paper.head(0, version, end());
        for (int[] keys : USUAL_KEYS) {
            if (faultIn(25)) {
                keySet(paper, new int[] {random.nextInt(6), 5 + random.nextInt(5)});
            } else if (faultIn(15)) {
                keySet(paper, keys);
            } else {
                paper.set(1, keys);
            }
        }
        return paper;
    }

    private void beginWithRoot() {
        if (faultIn(10)) {
            return;
        }
        write(rootPaper(oneIn(10) ? 250 + random.nextInt(6) : 1 + random.nextInt(3)));
        sign(0);
        begin();
    }

    private void newRoot() {
        write(rootPaper(near(trustedOr(0, 1) + 1)));
        signAll(USUAL_KEYS[0]);
        spoil();
        if (oneIn(6)) {
            begin();
        } else {
            offer();
        }
    }

    private void newStampAndSnapshot() {
        int version = near(Math.min(255, trustedOr(2, 1) + random.nextInt(2)));
        Paper snapshot = Paper.head(2, Math.max(1, version), end());
        List<Integer> roles = new ArrayList<>(List.of(3));
        for (int role = 4; role <= 6; role++) {
            if (!faultIn(8)) {
                roles.add(role);
            }
        }
        snapshot.add(roles.size());
        for (int role : roles) {
            snapshot.add(role, Math.max(1, near(trustedOr(role, 1) + (faultIn(6) ? 1 : 0))));
        }
        write(snapshot);
        signAll(USUAL_KEYS[2]);
        content();
        int[] whole = new int[model.length()];
        for (int i = 0; i < whole.length; i++) {
            whole[i] = model.at(i);
        }
        write(Paper.head(1, near(Math.min(255, trustedOr(1, 1) + random.nextInt(2))), end())
                .add(faultIn(15) ? near(version) : version));
        digest();
        signAll(USUAL_KEYS[1]);
        spoil();
        offer();
        if (!faultIn(10)) {
            write(Paper.of(whole));
            spoil();
            tick(faultIn(8) ? random.nextInt(6) : 0);
            offer();
        }
    }

    private String letters(int least, int most) {
        StringBuilder letters = new StringBuilder();
        for (int n = least + random.nextInt(most - least + 1); n > 0; n--) {
            letters.append((char) ('a' + random.nextInt(2)));
        }
        return letters.toString();
    }

    private void newTargets(int role) {
        Paper paper = Paper.head(role, near(trustedOr(role, 1) + (faultIn(8) ? 1 : 0)), end());
        int targets = random.nextInt(4);
        paper.add(targets);
        for (int i = 0; i < targets; i++) {
            // A first letter of its own keeps most documents free of a name twice.
            String name = faultIn(12) ? letters(1, 3) : (char) ('a' + i) + letters(0, 3);
            paper.target(name, oneIn(2) ? "a" : letters(0, 1));
        }
        int delegations = random.nextInt(4);
        paper.add(delegations);
        int first = random.nextInt(3);
        for (int i = 0; i < delegations; i++) {
            int to = faultIn(20) ? 4 + random.nextInt(3) : 4 + (first + i) % 3;
            paper.add(to, oneIn(4) ? 1 : 0);
            if (oneIn(8)) {
                paper.set(2, to, to + 1);
            } else {
                paper.set(1, to);
            }
            paper.word(oneIn(2) ? "" : letters(1, 2));
        }
        write(paper);
        signAll(role == 3 ? USUAL_KEYS[3] : new int[] {role});
        spoil();
        offer();
    }

    /** Most seeks on the way of such a chain get past what must hold. */
    private void wholeChain() {
        careful = true;
        beginWithRoot();
        newStampAndSnapshot();
        for (int role = 3; role <= 6; role++) {
            newTargets(role);
        }
        careful = oneIn(2);
        for (int i = 0; i < 8; i++) {
            newContent();
            seek();
            observe();
            install();
            newTargets(3 + random.nextInt(4));
            tick(random.nextInt(3));
        }
        careful = false;
    }

    private void newContent() {
        cut(0);
        for (char c : (oneIn(3) ? letters(0, 1) : "a").toCharArray()) {
            put(c, 1);
        }
        content();
    }

    private String name() {
        return oneIn(30) ? "" : oneIn(3) ? letters(1, 4) : (char) ('a' + random.nextInt(3)) + letters(0, 2);
    }

    private void seek() {
        String name = name();
        long above = oneIn(3) ? random.nextLong() << 8 * name.length() : 0;
        seek(Client.w(name) | above, oneIn(20) ? random.nextInt(8) - 1 : name.length());
    }

    private void install() {
        for (int i = 0; i < 4; i++) {
            String name = name();
            install(Client.w(name), oneIn(20) ? random.nextInt(8) - 1 : name.length());
        }
    }
}
