/** Promises 2, 3, 9 and 10: the tape, and what is taken from it and kept. */
public final class TapeAndKeysTest {
    public static void main(String[] args) {
        feeding();
        keysAreUsed();
        preludes();
        secretsAreUsed();
        Answer.end();
    }

    private static void feeding() {
        Both d = new Both("feed");
        d.feed(3, 0x636261L).is(3);
        d.hash(0).isNothing();
        d.resultIs("ba7816bf8f01cfea414140de5dae2223b00361a396177a9cb410ff61f20015ad");
        d.feed(1, 0x7fffff61L).is(1);
        d.feed(2, -0x10000L | 0x6362).is(3);
        d.hash(0).isNothing();
        d.resultIs("ba7816bf8f01cfea414140de5dae2223b00361a396177a9cb410ff61f20015ad");
        d.feed(5, 77).is(5);
        d.wipe().is(5);
        d.feed(1, 0x61).is(1);
        d.hash(0).isNothing();
        d.resultIs("ca978112ca1bbdcafac231b39a23dc4da786eff8147c4e72b9807785afee48bb");
    }

    /** E and S show in the messages; those that were not set are the public keys of 32 0s. */
    private static void keysAreUsed() {
        Both d = new Both("keys in a message");
        d.setKey(0, 1, Model.digest(Model.bytes(5)));
        d.setPattern("e s");
        d.begin(0).isNothing();
        d.write(0).is(64);
        byte[] e = Model.publicKey(new byte[32]);
        byte[] s = Model.publicKey(Model.digest(Model.bytes(5)));
        for (int k = 0; k < 32; k++) {
            d.at(0, 0, k).is(e[k] & 255);
            d.at(0, 0, 32 + k).is(s[k] & 255);
        }
        d.clear();
        d.setKey(0, 0, Model.digest(Model.bytes(6)));
        d.setPattern("e s");
        d.begin(0).isNothing();
        d.write(0).is(64);
        byte[] other = Model.publicKey(Model.digest(Model.bytes(6)));
        for (int k = 0; k < 32; k++) {
            d.at(0, 0, k).is(other[k] & 255);
            d.at(0, 0, 32 + k).is(s[k] & 255);
        }
    }

    private static void preludes() {
        Both d = new Both("preludes that differ");
        d.setKey(0, 2, Model.bytes(1, 2, 3));
        d.setPattern("e / e ee");
        d.begin(0).isNothing();
        d.write(0).is(32);
        d.deliver(1).is(0);
        d.write(1).is(48);
        d.deliver(0).is(-1);
        d.clear();
        d.setKey(1, 2, Model.bytes(1, 2, 3));
        d.setPattern("e / e ee");
        d.begin(0).isNothing();
        d.seeSome(0);
        d.write(0).is(32);
        d.deliver(1).is(0);
        d.write(1).is(48);
        d.deliver(0).is(0);
        d.clear();
        d.key(0, 2).isNothing();
        d.key(1, 2).isNothing();
        d.setPattern("e / e ee");
        d.begin(0).isNothing();
        d.seeSome(0);
        d.seeSome(1);
    }

    /** The psks of a pattern take the secrets in turn, whoever sends them. */
    private static void secretsAreUsed() {
        for (int changed = 0; changed < 4; changed++) {
            Both d = new Both("secret " + changed + " in a pattern");
            d.feedAll(Model.digest(Model.bytes(changed)));
            d.secret(changed).isNothing();
            d.setPattern("psk e psk / psk e ee psk");
            d.begin(changed % 2).isNothing();
            d.write(0).is(48);
            d.deliver(1).is(0);
            d.seeSome(0);
            d.seeSome(1);
            d.look(0, 7).is(2);
            d.write(1).is(48);
            d.deliver(0).is(0);
            d.look(0, 7).is(4);
            d.look(1, 7).is(4);
            d.seeSome(0);
            d.seeSome(1);
        }
    }
}
