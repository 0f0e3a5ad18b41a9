/** Promises 11 to 15: to begin, to write, read and deliver the messages of a pattern, and to alter them. */
public final class GreetingTest {
    private static final String THREE = "e / e ee s es / s se";

    public static void main(String[] args) {
        beginning();
        turns();
        exchange();
        everyPattern();
        sizes();
        payloadsWithoutKey();
        readingTheTape();
        alteredKey();
        Answer.end();
    }

    private static Both begun(String pattern, int hash) {
        Both d = new Both(pattern + ", hash " + hash);
        d.greet(pattern, hash, 0);
        return d;
    }

    private static void beginning() {
        Both d = new Both("begin");
        d.setPattern("e / e ee");
        d.begin(1).isNothing();
        d.look(0, 0).is(1);
        d.look(1, 0).is(2);
        for (int party = 0; party < 2; party++) {
            d.lookAll(party);
            d.seeSome(party);
        }
        knownKeysAtBegin();
    }

    /** h and ck of both, for both hashes and each set of keys known beforehand. */
    private static void knownKeysAtBegin() {
        for (int hash = 0; hash < 2; hash++) {
            for (int set = 0; set < 16; set++) {
                Both d = new Both("begin with hash " + hash + " and known keys " + set);
                d.setKeys();
                d.setKey(0, 2, Model.bytes(3, 4));
                for (int i = 0; i < 4; i++) {
                    if ((set >> i & 1) != 0) {
                        d.known(i / 2, i % 2);
                    }
                }
                // A first message that sends no key known beforehand; with both known, party 1's e is too.
                d.setPattern((set & 1) == 0 ? "e" : (set & 2) == 0 ? "s" : "e1 : ee");
                d.begin(hash).isNothing();
                d.seeSome(0);
                d.seeSome(1);
            }
        }
    }

    private static void turns() {
        Both d = begun(THREE, 0);
        for (int bad : new int[] {-1, 2, Integer.MIN_VALUE, Integer.MAX_VALUE}) {
            d.write(bad).refusesArgument();
            d.read(bad).refusesArgument();
            d.deliver(bad).refusesArgument();
        }
        d.feed(4, 1);
        d.write(1).refusesState();
        d.read(0).refusesState();
        d.deliver(0).refusesState();
        d.wipe().is(4);
        d.write(0).is(32);
        d.look(0, 0).is(2);
        d.look(0, 3).is(1);
        d.look(1, 0).is(2);
        d.look(1, 3).is(0);
        d.write(0).refusesState();
        d.write(1).refusesState();
        d.deliver(1).is(0);
        d.look(1, 0).is(1);
        d.look(1, 3).is(1);
        d.deliver(1).refusesState();
        d.read(1).refusesState();
        d.write(1).is(96);
        d.deliver(0).is(0);
        d.write(0).is(64);
        d.look(0, 0).is(3);
        d.look(1, 0).is(2);
        d.deliver(1).is(0);
        d.look(1, 0).is(3);
        d.look(1, 3).is(3);
    }

    private static void exchange() {
        for (int hash = 0; hash < 2; hash++) {
            Both d = begun(THREE, hash);
            String[] payloads = {"one", "", "a third one, longer than a block of sixty-four bytes, as is said here"};
            for (int m = 0; m < 3; m++) {
                byte[] payload = payloads[m].getBytes(java.nio.charset.StandardCharsets.US_ASCII);
                d.feedAll(payload);
                d.write(m % 2);
                d.wipe().is(0);
                d.deliver(1 - m % 2).is(payload.length);
                d.look(1 - m % 2, 2).is(payload.length);
                for (int k = 0; k < payload.length; k++) {
                    d.at(1 - m % 2, 1, k).is(payload[k]);
                }
                d.at(1 - m % 2, 1, payload.length).refusesElement();
                d.seeSome(0);
                d.seeSome(1);
            }
        }
    }

    private static void everyPattern() {
        for (String pattern : new String[] {
            "s1 : e es", "s0 s1 : e es ss", "s1 : e es s ss", "e / e ee", "s1 : e es / e ee",
            "s0 : e / e ee se", "s0 s1 : e es ss / e ee se", "s1 : e es / e ee / s se", "e s / e ee se s es",
            "s1 : e es s ss / e ee se", "psk e / e ee", "e / e ee psk", "e s / e psk ee / psk", "e0 e1 : ee / s / s",
            "e / e / s / s / ee / es / se / ss", "e / e ee s es psk / s se psk psk psk"}) {
            for (int hash = 0; hash < 2; hash++) {
                Both d = begun(pattern, hash);
                int messages = d.model.messages.size();
                for (int m = 0; m < messages; m++) {
                    d.feed(1 + m, 0x0706050403020100L);
                    d.write(m % 2);
                    d.deliver(1 - m % 2).is(1 + m);
                }
                for (int party = 0; party < 2; party++) {
                    d.look(party, 0).is(3);
                    d.lookAll(party);
                    d.seeSome(party);
                }
            }
        }
    }

    private static void sizes() {
        Both d = begun("e s / e s psk", 0);
        d.feed(1, 1);
        d.write(0).is(32 + 48 + 17);
        d.deliver(1).is(1);
        d.write(1).is(32 + 48 + 16);
        d.deliver(0).is(0);
        Both e = begun("e s / s e ee", 1);
        e.feed(1, 1);
        e.write(0).is(65);
        e.deliver(1).is(1);
        e.write(1).is(80);
        e.deliver(0).is(0);
    }

    private static void payloadsWithoutKey() {
        Both d = begun("e s / s e", 0);
        d.feed(3, 0x030201);
        d.write(0).is(67);
        d.at(0, 0, 64).is(1);
        d.at(0, 0, 66).is(3);
        d.alter(0, 65, 0x40).is(0x42);
        d.deliver(1).is(3);
        d.at(1, 1, 1).is(0x42);
        d.look(1, 0).is(1);
    }

    private static void failed(Both d, int party, int done) {
        d.look(party, 0).is(4);
        d.look(party, 2).is(0);
        d.look(party, 3).is(done);
        for (int what = 4; what < 8; what++) {
            d.look(party, what).is(0);
        }
        for (int what = 1; what < 6; what++) {
            d.at(party, what, 0).refusesElement();
        }
        d.write(party).refusesState();
        d.read(party).refusesState();
        d.deliver(party).refusesState();
        d.number(party, true, 0).refusesState();
        d.rekey(party, false).refusesState();
        d.begin(0).refusesState();
        d.say(0).refusesState();
    }

    private static void readingTheTape() {
        Both d = begun("e / e ee", 0);
        byte[] key = Model.publicKey(Model.digest(Model.bytes(7)));
        d.feedAll(key);
        d.feed(2, 0x0605);
        d.read(1).is(2);
        d.wipe().is(0);
        d.at(1, 1, 0).is(5);
        d.at(1, 1, 1).is(6);
        d.look(1, 0).is(1);
        d.write(1).is(48);
        d.seeSome(1);
        // Party 0 has not written its own message: it reads nothing yet.
        d.deliver(0).refusesState();
        d.write(0).is(32);
        d.deliver(0).is(-1);
        failed(d, 0, 1);
        d.look(0, 1).is(32);
    }

    /** An e that was altered on its way is one more public key to its reader, who goes on with it. */
    private static void alteredKey() {
        Both d = begun("e / e ee", 1);
        d.write(0).is(32);
        d.alter(0, 31, 128);
        d.deliver(1).is(0);
        d.write(1).is(48);
        d.seeSome(1);
        d.deliver(0).is(-1);
        failed(d, 0, 1);
        d.look(1, 0).is(3);
    }
}
