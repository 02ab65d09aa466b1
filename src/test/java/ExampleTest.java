/** The example of README.md, call by call, with what each answers. */
public final class ExampleTest {
    private static final Check CHECK = new Check("ExampleTest");

    public static void main(String[] args) {
        TrustedUpdates client = new TrustedUpdates();
        root(client);
        snapshotAndStamp(client);
        targets(client);
        CHECK.due("seek", client.seek('a', 1), 3);
        CHECK.due("install", client.install('a', 1), 3);
        CHECK.due("installed", client.installed(), 1);
        CHECK.due("visits", client.visits(), 1);
        CHECK.due("tick", client.tick(1000), 1000);
        CHECK.answers("all has ended", () -> client.install('a', 1), Check.STATE);
        CHECK.end();
    }

    private static void root(TrustedUpdates client) {
        CHECK.due("put", client.put(0x01_00_01_01_E8_03_01_00L, 8), true);
        CHECK.due("put", client.put(0x03_01_01_02_01_01_01_01L, 8), true);
        CHECK.due("sign", client.sign(0), 1);
        client.begin();
        CHECK.due("version", client.trusted(0, false), 1);
        CHECK.due("end", client.trusted(0, true), 1000);
    }

    private static void snapshotAndStamp(TrustedUpdates client) {
        client.cut(0);
        client.put(0x01_03_01_E8_03_01_02L, 7);
        CHECK.due("sign", client.sign(2), 1);
        CHECK.due("content", client.content(), 13);
        client.cut(0);
        client.put(0x01_E8_03_01_01L, 5);
        CHECK.due("digest", client.digest(), true);
        CHECK.due("sign", client.sign(1), 1);
        CHECK.due("offer", client.offer(), 1);
        client.cut(0);
        client.put(0x01_03_01_E8_03_01_02L, 7);
        CHECK.due("sign", client.sign(2), 1);
        CHECK.due("offer", client.offer(), 2);
    }

    private static void targets(TrustedUpdates client) {
        client.cut(0);
        client.put(0x69_68, 2);
        CHECK.due("content", client.content(), 2);
        client.cut(0);
        client.put(0x02_61_01_01_E8_03_01_03L, 8);
        CHECK.due("digest", client.digest(), true);
        CHECK.due("put", client.put(0, 1), true);
        CHECK.due("sign", client.sign(3), 1);
        CHECK.due("offer", client.offer(), 3);
    }
}
