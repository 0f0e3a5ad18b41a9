/** Promises 1, 2, 3, 9 and 10: a new object, the tape, and what is taken from it and kept. */
public final class TapeAndKeysTest {
    public static void main(String[] args) {
        newObject();
        feeding();
        wiping();
        keys();
        keysAreUsed();
        preludes();
        secrets();
        secretsAreUsed();
        Answer.end();
    }

    private static void newObject() {
        Both d = new Both("new object");
        d.rule().is(-1);
        for (int party = 0; party < 2; party++) {
            for (int what = 0; what < 8; what++) {
                d.look(party, what).is(0);
            }
            for (int what = 0; what < 6; what++) {
                d.at(party, what, 0).refusesElement();
            }
            d.write(party).refusesState();
            d.read(party).refusesState();
            d.deliver(party).refusesState();
            d.number(party, true, 1).refusesState();
            d.rekey(party, false).refusesState();
            d.alter(party, 0, 1).refusesElement();
        }
        for (int k = 0; k < 32; k++) {
            d.result(k).is(0);
        }
        d.next().refusesState();
        d.begin(0).refusesState();
        d.wipe().is(0);
    }

    private static void feeding() {
        Both d = new Both("feed");
        d.feed(3, 0x636261L).is(3);
        d.hash(0).isNothing();
        d.resultIs("ba7816bf8f01cfea414140de5dae2223b00361a396177a9cb410ff61f20015ad");
        d.feed(1, 0x7fffff61L).is(1);
        d.feed(2, -0x10000L | 0x6362).is(3);
        d.hash(0).isNothing();
        d.result(0).is(0xba);
        for (int n : new int[] {0, 9, -1, Integer.MIN_VALUE, Integer.MAX_VALUE}) {
            d.feed(n, 1).refusesArgument();
        }
        for (int i = 1; i <= 127; i++) {
            d.feed(8, 0x8877665544332211L).is(8 * i);
        }
        d.feed(3, 1).is(1019);
        d.feed(6, 1).refusesState();
        d.feed(Integer.MAX_VALUE, 1).refusesArgument();
        d.feed(5, 1).is(1024);
        d.feed(1, 1).refusesState();
        d.feed(9, 1).refusesArgument();
        d.hash(1).isNothing();
        for (int k = 0; k < 32; k++) {
            d.result(k);
        }
        d.feed(8, 1).is(8);
    }

    private static void wiping() {
        Both d = new Both("wipe");
        d.wipe().is(0);
        d.feed(5, 77).is(5);
        d.wipe().is(5);
        d.wipe().is(0);
        d.feed(1, 0x61).is(1);
        d.hash(0).isNothing();
        d.resultIs("ca978112ca1bbdcafac231b39a23dc4da786eff8147c4e72b9807785afee48bb");
    }

    private static void keys() {
        Both d = new Both("key");
        d.feedAll(new byte[31]);
        d.key(0, 0).refusesArgument();
        d.key(0, 1).refusesArgument();
        d.feed(1, 0);
        for (int bad : new int[] {-1, 2, Integer.MIN_VALUE, Integer.MAX_VALUE}) {
            d.key(bad, 0).refusesArgument();
        }
        for (int bad : new int[] {-1, 3, Integer.MIN_VALUE, Integer.MAX_VALUE}) {
            d.key(0, bad).refusesArgument();
        }
        d.feed(1, 0).is(33);
        d.key(1, 0).refusesArgument();
        d.key(1, 2).isNothing();
        d.wipe().is(0);
        d.feedAll(new byte[64]);
        d.key(1, 2).isNothing();
        d.feedAll(new byte[65]);
        d.key(1, 2).refusesArgument();
        d.wipe().is(65);
        d.key(0, 2).isNothing();
        d.feedAll(new byte[32]);
        d.key(0, 1).isNothing();
        d.wipe().is(0);
        d.setPattern("e");
        d.begin(0).isNothing();
        d.key(0, 0).refusesArgument();
        d.key(2, 2).refusesArgument();
        d.key(0, 2).refusesState();
        d.feedAll(new byte[32]);
        d.key(0, 0).refusesState();
        d.wipe().is(32);
        d.clear();
        d.key(0, 2).isNothing();
    }

    /** E and S show in the messages; those that were not set are the public keys of 32 0s. */
    private static void keysAreUsed() {
        Both d = new Both("keys in a message");
        d.setKey(0, 1, Model.digest(Model.bytes(5)));
        d.setPattern("e s");
        d.begin(0).isNothing();
        d.write(0).is(64);
        byte[] e = Model.publicKey(new byte[32]);
        byte[] s = Model.publicKey(Model.digest(Model.bytes(5)));
        for (int k = 0; k < 32; k++) {
            d.at(0, 0, k).is(e[k] & 255);
            d.at(0, 0, 32 + k).is(s[k] & 255);
        }
        d.clear();
        d.setKey(0, 0, Model.digest(Model.bytes(6)));
        d.setPattern("e s");
        d.begin(0).isNothing();
        d.write(0).is(64);
        byte[] other = Model.publicKey(Model.digest(Model.bytes(6)));
        for (int k = 0; k < 32; k++) {
            d.at(0, 0, k).is(other[k] & 255);
            d.at(0, 0, 32 + k).is(s[k] & 255);
        }
    }

    private static void preludes() {
        Both d = new Both("preludes that differ");
        d.setKey(0, 2, Model.bytes(1, 2, 3));
        d.setPattern("e / e ee");
        d.begin(0).isNothing();
        d.write(0).is(32);
        d.deliver(1).is(0);
        d.write(1).is(48);
        d.deliver(0).is(-1);
        d.clear();
        d.setKey(1, 2, Model.bytes(1, 2, 3));
        d.setPattern("e / e ee");
        d.begin(0).isNothing();
        d.seeSome(0);
        d.write(0).is(32);
        d.deliver(1).is(0);
        d.write(1).is(48);
        d.deliver(0).is(0);
        d.clear();
        d.key(0, 2).isNothing();
        d.key(1, 2).isNothing();
        d.setPattern("e / e ee");
        d.begin(0).isNothing();
        d.seeSome(0);
        d.seeSome(1);
    }

    private static void secrets() {
        Both d = new Both("secret");
        d.feedAll(new byte[31]);
        d.secret(0).refusesArgument();
        d.feed(1, 7).is(32);
        for (int k : new int[] {-1, 4, Integer.MIN_VALUE, Integer.MAX_VALUE}) {
            d.secret(k).refusesArgument();
        }
        d.secret(3).isNothing();
        d.wipe().is(0);
        d.feedAll(new byte[33]);
        d.secret(3).refusesArgument();
        d.wipe();
        d.setPattern("e");
        d.begin(0).isNothing();
        d.secret(0).refusesArgument();
        d.feedAll(new byte[32]);
        d.secret(4).refusesArgument();
        d.secret(0).refusesState();
        d.wipe().is(32);
    }

    /** The psks of a pattern take the secrets in turn, whoever sends them. */
    private static void secretsAreUsed() {
        for (int changed = 0; changed < 4; changed++) {
            Both d = new Both("secret " + changed + " in a pattern");
            d.feedAll(Model.digest(Model.bytes(changed)));
            d.secret(changed).isNothing();
            d.setPattern("psk e psk / psk e ee psk");
            d.begin(changed % 2).isNothing();
            d.write(0).is(48);
            d.deliver(1).is(0);
            d.seeSome(0);
            d.seeSome(1);
            d.look(0, 7).is(2);
            d.write(1).is(48);
            d.deliver(0).is(0);
            d.look(0, 7).is(4);
            d.look(1, 7).is(4);
            d.seeSome(0);
            d.seeSome(1);
        }
    }
}
