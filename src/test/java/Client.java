/** An object under test that counts its calls, as what it answers behind the 512th is free. */
final class Client {
    static final int MOST_CALLS = 512;

    private final TrustedUpdates x = new TrustedUpdates();
    private int calls = 0;

    private TrustedUpdates called() {
        calls++;
        if (calls > MOST_CALLS) {
            throw new AssertionError("a test makes more than " + MOST_CALLS + " calls of one object");
        }
        return x;
    }

    int callsLeft() {
        return MOST_CALLS - calls;
    }

    boolean put(long w, int n) {
        return called().put(w, n);
    }

    boolean cut(int n) {
        return called().cut(n);
    }

    boolean alter(int i, int v) {
        return called().alter(i, v);
    }

    int length() {
        return called().length();
    }

    int at(int i) {
        return called().at(i);
    }

    int mix(int s) {
        return called().mix(s);
    }

    boolean digest() {
        return called().digest();
    }

    int sign(int key) {
        return called().sign(key);
    }

    int content() {
        return called().content();
    }

    int tick(int n) {
        return called().tick(n);
    }

    Object begin() {
        called().begin();
        return "begun";
    }

    int offer() {
        return called().offer();
    }

    int trusted(int role, boolean ends) {
        return called().trusted(role, ends);
    }

    int seek(long w, int n) {
        return called().seek(w, n);
    }

    int visits() {
        return called().visits();
    }

    int install(long w, int n) {
        return called().install(w, n);
    }

    int installed() {
        return called().installed();
    }

    // What tests say shorter

    static long w(String name) {
        long w = 0;
        for (int i = name.length() - 1; i >= 0; i--) {
            w = w << 8 | name.charAt(i);
        }
        return w;
    }

    int seek(String name) {
        return seek(w(name), name.length());
    }

    int install(String name) {
        return install(w(name), name.length());
    }

    int version(int role) {
        return trusted(role, false);
    }

    /** Makes the text the content; the draft is it, too, then. */
    Client keep(String text) {
        Paper.of(text.chars().toArray()).into(this);
        content();
        return this;
    }

    /** All that can be seen of the object by calls that leave it as it was. */
    String sight() {
        int length = length();
        StringBuilder seen = new StringBuilder();
        seen.append("draft ").append(length).append(' ').append(mix(0)).append(' ').append(mix(1));
        seen.append(", clock ").append(tick(0)).append(", trusted");
        for (int role = 0; role <= 6; role++) {
            seen.append(' ').append(trusted(role, false)).append('/').append(trusted(role, true));
        }
        seen.append(", visits ").append(visits()).append(", installed ").append(installed());
        if (length <= 116) {
            digest();
            seen.append(", content ").append(mix(2));
            cut(length);
        }
        return seen.toString();
    }
}
