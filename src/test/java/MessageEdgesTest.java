import java.util.Arrays;

/** The boundary cases of promises 11 to 15 and of the terms that tell of messages, until both parties are split. */
public final class MessageEdgesTest {
    private static final String THREE = "e / e ee s es / s se";

    public static void main(String[] args) {
        Edge.of("Promise 11", "IllegalArgumentException for another hash", MessageEdgesTest::otherHash);
        Edge.of("Promise 11", "when they have begun", MessageEdgesTest::beginTwice);
        Edge.of("Promise 11", "or the pattern breaks a rule", MessageEdgesTest::beginBroken);
        Edge.of("Promise 11", "or has no message", MessageEdgesTest::beginWithoutMessage);
        Edge.of("Promise 11", "OUT and IN are empty", MessageEdgesTest::emptyRows);
        Edge.of("Promise 12", "there is no such party", MessageEdgesTest::noSuchWriter);
        Edge.of("Promise 12", "it does not write next", MessageEdgesTest::notWritingNext);
        Edge.of("Promise 12", "the message would have more than 1024 bytes", MessageEdgesTest::longestMessages);
        Edge.of("Promise 12", "with the tape, which is read, as payload", MessageEdgesTest::emptyPayload);
        Edge.of("Promise 13", "there is no such party", MessageEdgesTest::noSuchReader);
        Edge.of("Promise 13", "it does not read next", MessageEdgesTest::notReadingNext);
        Edge.of("Terms", "A party that reads a message of a pattern that is too short", MessageEdgesTest::tooShort);
        Edge.of("Terms", "or fails to open, is FAILED", MessageEdgesTest::failingToOpen);
        Edge.of("Terms", "(of it, 4 to 7 of look are 0, and nothing of h, ck and keys is to be seen)",
            MessageEdgesTest::failedWithKey);
        Edge.of("Promise 13", "which is used up (also when that fails with -1)", MessageEdgesTest::usedUp);
        Edge.of("Promise 13", "-1 when that fails (its IN is empty)", MessageEdgesTest::emptyIn);
        Edge.of("Promise 14", "The same with the other party's OUT.", MessageEdgesTest::deliverRefused);
        Edge.of("Promise 14", "The same with the other party's OUT.", MessageEdgesTest::delivering);
        Edge.of("Promise 14", "The same with the other party's OUT.", MessageEdgesTest::emptyOut);
        Edge.of("Promise 15", "there is no such party", MessageEdgesTest::alterNoParty);
        Edge.of("Promise 15", "there is no such byte", MessageEdgesTest::alterNoByte);
        Edge.of("Promise 15", "becomes itself ^ mask: what it is then", MessageEdgesTest::masks);
        Edge.of("Terms", "if not, it stays; then h is mixed with what it has become", MessageEdgesTest::withoutKey);
        Edge.of("Terms", "the number n is 0", MessageEdgesTest::numberInPattern);
        Edge.of("Terms", "0 not begun, 1 it writes next, 2 it reads next, 3 split, 4 failed", MessageEdgesTest::states);
        Answer.end();
    }

    private static void otherHash(Both d) {
        d.setPattern("e / e ee");
        for (int hash : Edge.NOT_0_1) {
            d.begin(hash).refusesArgument();
        }
        d.begin(1).isNothing();
        Both zero = d.another();
        zero.setPattern("e / e ee");
        zero.begin(0).isNothing();
    }

    private static void beginTwice(Both d) {
        Edge.inEachBegunState(d, begun -> {
            begun.begin(0).refusesState();
            begun.begin(1).refusesState();
        });
    }

    private static void beginBroken(Both d) {
        String[] broken = {"e e", "ee", "e / e ee ee", "s0 e1 : se", "psk"};
        for (int rule = 1; rule <= 5; rule++) {
            d.setPattern(broken[rule - 1]);
            d.rule().is(rule);
            d.begin(0).refusesState();
            d.begin(1).refusesState();
            d.look(0, 0).is(0);
            d.clear();
        }
    }

    private static void beginWithoutMessage(Both d) {
        d.begin(0).refusesState();
        d.known(1, 1);
        d.begin(0).refusesState();
        d.say(0).is(1);
        d.begin(1).refusesState();
        d.next().is(1);
        d.begin(1).isNothing();
        d.clear();
        d.begin(1).refusesState();
    }

    private static void emptyRows(Both d) {
        d.greet("e / e ee", 0, 2);
        d.clear();
        d.setPattern("e");
        d.begin(0).isNothing();
        for (int party = 0; party < 2; party++) {
            d.look(party, 1).is(0);
            d.look(party, 2).is(0);
            d.at(party, 0, 0).refusesElement();
            d.at(party, 1, 0).refusesElement();
        }
    }

    private static void noSuchWriter(Both d) {
        Edge.inEachBegunState(d, begun -> {
            begun.fill(3);
            for (int party : Edge.NOT_0_1) {
                begun.write(party).refusesArgument();
            }
            begun.wipe().is(3);
        });
    }

    private static void noSuchReader(Both d) {
        Edge.inEachBegunState(d, begun -> {
            begun.fill(3);
            for (int party : Edge.NOT_0_1) {
                begun.read(party).refusesArgument();
            }
            begun.wipe().is(3);
        });
    }

    private static void notWritingNext(Both d) {
        d.fill(3);
        d.write(0).refusesState();
        d.write(1).refusesState();
        d.wipe().is(3);
        d.greet("e / e ee", 0, 0);
        d.fill(3);
        d.write(1).refusesState();
        d.write(0).is(35);
        // Its message is on the way: now neither writes.
        d.write(0).refusesState();
        d.write(1).refusesState();
        d.deliver(1).is(3);
        d.write(0).refusesState();
        d.alter(1, 0, 0).refusesElement();
        d.write(1).is(48);
        d.alter(1, 47, 1);
        d.deliver(0).is(-1);
        d.write(0).refusesState();
    }

    /** Each kind of message: as long as may be, and a byte longer. */
    private static void longestMessages(Both d) {
        longest(d, "e / e ee", 0, 32);
        longest(d, "e / e ee", 1, 48);
        longest(d, THREE, 1, 96);
        longest(d, THREE, 2, 64);
        longest(d, "e s / e", 0, 64);
        longest(d, "e s / e psk", 0, 96);
        longest(d, "s e / e psk", 0, 80);
        longest(d, "e0 s1 : es / e ee", 0, 16);
    }

    private static void longest(Both d, String pattern, int messages, int beside) {
        int writer = messages % 2;
        Both full = new Both(d.name + ", message " + messages + " of " + pattern);
        full.greet(pattern, 0, messages);
        full.fill(1024 - beside);
        full.write(writer).is(1024);
        full.wipe().is(0);
        full.look(writer, 1).is(1024);
        full.at(writer, 0, 1023);
        full.at(writer, 0, 1024).refusesElement();
        full.deliver(1 - writer).is(1024 - beside);
        byte[] payload = Model.counting(1024 - beside);
        full.at(1 - writer, 1, payload.length - 1).is(payload[payload.length - 1] & 255);
        full.seeSome(writer);
        for (int size : new int[] {1025 - beside, 1024}) {
            Both over = new Both(full.name);
            over.greet(pattern, 0, messages);
            over.fill(size);
            over.write(writer).refusesState();
            over.look(writer, 0).is(1);
            over.look(writer, 3).is(messages);
            over.wipe().is(size);
            over.write(writer).is(beside);
            over.deliver(1 - writer).is(0);
        }
    }

    private static void emptyPayload(Both d) {
        d.greet("e / e ee", 0, 0);
        d.write(0).is(32);
        d.deliver(1).is(0);
        d.look(1, 2).is(0);
        d.at(1, 1, 0).refusesElement();
        d.write(1).is(48);
        d.deliver(0).is(0);
        d.look(0, 2).is(0);
    }

    private static void notReadingNext(Both d) {
        d.fill(40);
        d.read(0).refusesState();
        d.read(1).refusesState();
        d.wipe().is(40);
        d.greet("e / e ee", 0, 0);
        d.read(0).refusesState();
        d.write(0).is(32);
        d.deliver(1).is(0);
        d.fill(40);
        d.read(1).refusesState();
        d.read(0).is(-1);
        d.fill(40);
        d.read(0).refusesState();
        d.wipe().is(40);
    }

    private static void isFailed(Both d, int party, int done) {
        d.look(party, 0).is(4);
        d.look(party, 2).is(0);
        d.look(party, 3).is(done);
        for (int what = 4; what < 8; what++) {
            d.look(party, what).is(0);
        }
        for (int what = 1; what < 6; what++) {
            d.at(party, what, 0).refusesElement();
        }
    }

    /** The messages as they are due, cut at the ends of their parts; with all bytes they are read. */
    private static void tooShort(Both d) {
        cutMessage(d, "e / e ee", 0, 0, 1, 31);
        cutMessage(d, "s / e", 0, 0, 31);
        cutMessage(d, "e s / e", 0, 0, 31, 32, 63);
        cutMessage(d, "s1 : e es / e ee", 0, 0, 31, 32, 47);
        cutMessage(d, THREE, 1, 0, 31, 32, 47, 48, 79, 80, 95);
        cutMessage(d, THREE, 2, 0, 15, 16, 47, 48, 63);
        cutMessage(d, "e s / e psk", 0, 0, 31, 32, 79, 80, 95);
        cutMessage(d, "e0 s1 : es / e ee", 0, 0, 15);
    }

    private static void cutMessage(Both d, String pattern, int messages, int... sizes) {
        int writer = messages % 2;
        for (int size : sizes) {
            Both cut = new Both(d.name + ", message " + messages + " of " + pattern + " cut to " + size);
            cut.greet(pattern, 1, messages);
            cut.write(writer).is(sizes[sizes.length - 1] + 1);
            byte[] out = cut.model.sides[writer].out;
            cut.feedAll(Arrays.copyOf(out, size));
            cut.read(1 - writer).is(-1);
            cut.wipe().is(0);
            isFailed(cut, 1 - writer, messages);
            cut.look(writer, 3).is(messages + 1);
            Both whole = new Both(cut.name + ", and whole");
            whole.greet(pattern, 1, messages);
            whole.write(writer);
            whole.feedAll(out);
            whole.read(1 - writer).is(0);
            whole.look(1 - writer, 3).is(messages + 1);
        }
    }

    /** The first and the last byte of each part: e, the sealed s and its tally, the payload and its tally. */
    private static void failingToOpen(Both d) {
        for (int i : new int[] {0, 31, 32, 63, 64, 79, 80, 82, 83, 98}) {
            Both one = new Both(d.name + ", byte " + i);
            one.greet(THREE, i % 2, 1);
            one.fill(3);
            one.write(1).is(99);
            one.alter(1, i, 1);
            one.deliver(0).is(-1);
            isFailed(one, 0, 1);
            one.look(0, 1).is(32);
            one.alter(1, i, 1);
            one.deliver(0).refusesState();
            one.write(0).refusesState();
            one.number(0, true, 0).refusesState();
            one.rekey(0, false).refusesState();
            one.look(1, 0).is(2);
        }
    }

    /** Before it fails it has a key, a number and a psk done. */
    private static void failedWithKey(Both d) {
        d.greet("e psk / e ee s / s se", 0, 2);
        d.look(1, 4).is(1);
        d.look(1, 5).is(2);
        d.look(1, 7).is(1);
        d.at(1, 4, 0);
        d.write(0).is(64);
        d.alter(0, 63, 128);
        d.deliver(1).is(-1);
        isFailed(d, 1, 2);
        d.look(1, 1).is(96);
        d.at(1, 0, 95);
        d.look(0, 0).is(3);
    }

    private static void usedUp(Both d) {
        d.greet("e / e ee", 0, 0);
        d.fill(31);
        d.read(1).is(-1);
        d.wipe().is(0);
        Both opened = d.another();
        opened.greet("e / e ee", 0, 1);
        opened.write(1).is(48);
        opened.fill(1024);
        opened.read(0).is(-1);
        opened.wipe().is(0);
        Both refused = d.another();
        refused.greet("e / e ee", 0, 0);
        refused.fill(32);
        refused.read(0).refusesState();
        refused.read(2).refusesArgument();
        refused.wipe().is(32);
    }

    private static void emptyIn(Both d) {
        d.greet(THREE, 0, 0);
        d.fill(3);
        d.write(0).is(35);
        d.deliver(1).is(3);
        d.at(1, 1, 2).is(15);
        d.write(1).is(96);
        d.deliver(0).is(0);
        d.write(0).is(64);
        d.look(1, 2).is(3);
        d.alter(0, 0, 1);
        d.deliver(1).is(-1);
        d.look(1, 2).is(0);
        d.at(1, 1, 0).refusesElement();
    }

    private static void deliverRefused(Both d) {
        d.deliver(0).refusesState();
        d.deliver(1).refusesState();
        d.greet("e / e ee", 0, 0);
        d.deliver(0).refusesState();
        d.write(0).is(32);
        d.deliver(1).is(0);
        d.deliver(1).refusesState();
        d.write(1).is(48);
        d.alter(1, 47, 1);
        d.deliver(0).is(-1);
        d.deliver(0).refusesState();
        Edge.inEachBegunState(d, begun -> {
            for (int party : Edge.NOT_0_1) {
                begun.deliver(party).refusesArgument();
            }
        });
    }

    /** What is on the tape, and the OUT itself, stay as they are, whether it is read or not. */
    private static void delivering(Both d) {
        d.greet("e / e ee", 0, 0);
        d.fill(2);
        d.write(0).is(34);
        long last = Long.parseLong(d.at(0, 0, 33).text);
        d.fill(5);
        d.deliver(1).is(2);
        d.look(0, 1).is(34);
        d.at(0, 0, 33).is(last);
        d.wipe().is(5);
        d.fill(6);
        d.deliver(1).refusesState();
        d.wipe().is(6);
        d.write(1).is(48);
        d.alter(1, 40, 1);
        d.fill(7);
        d.deliver(0).is(-1);
        d.look(1, 1).is(48);
        d.wipe().is(7);
    }

    /** An OUT without bytes, and one from an earlier message, are too short or do not open. */
    private static void emptyOut(Both d) {
        d.greet("e / e ee", 0, 0);
        d.deliver(1).is(-1);
        isFailed(d, 1, 0);
        Both early = d.another();
        early.greet("e / e ee", 0, 0);
        early.write(0).is(32);
        early.deliver(0).is(-1);
        isFailed(early, 0, 1);
        Both old = d.another();
        old.greet(THREE, 0, 2);
        old.deliver(1).is(-1);
        isFailed(old, 1, 2);
    }

    private static void alterNoParty(Both d) {
        d.greet("e / e ee", 0, 1);
        for (int party : Edge.NOT_0_1) {
            d.alter(party, 0, 1).refusesArgument();
            d.alter(party, -1, 1).refusesArgument();
        }
    }

    private static void alterNoByte(Both d) {
        for (int i : new int[] {-1, 0, 1}) {
            d.alter(0, i, 1).refusesElement();
            d.alter(1, i, 1).refusesElement();
        }
        d.greet("e / e ee", 0, 0);
        d.fill(2);
        d.write(0).is(34);
        for (int i : new int[] {-1, 34, 35, 1023, 1024, Integer.MIN_VALUE, Integer.MAX_VALUE}) {
            d.alter(0, i, 1).refusesElement();
        }
        d.alter(1, 0, 1).refusesElement();
        d.alter(0, 33, 0).is(8);
        d.alter(0, 0, 0);
        d.clear();
        d.alter(0, 0, 1).refusesElement();
    }

    /** A byte is 0 .. 255, so of a mask only its lowest 8 bits can show. */
    private static void masks(Both d) {
        d.greet("e / e ee", 0, 0);
        d.feed(2, 0xff00L);
        d.write(0).is(34);
        d.alter(0, 32, 0).is(0);
        d.alter(0, 32, 255).is(255);
        d.alter(0, 32, 255).is(0);
        d.alter(0, 32, 128).is(128);
        d.alter(0, 33, 1).is(254);
        d.alter(0, 33, 256).is(254);
        d.alter(0, 33, -1).is(1);
        d.alter(0, 33, Integer.MIN_VALUE).is(1);
        d.at(0, 0, 32).is(128);
        d.at(0, 0, 33).is(1);
        d.deliver(1).is(2);
        d.at(1, 1, 0).is(128);
        d.at(1, 1, 1).is(1);
    }

    /** Nothing but e: the payload goes open, of no bytes too, and h is mixed with it all the same. */
    private static void withoutKey(Both d) {
        byte[] h = Model.digest(Model.digest(Model.bytes(0, 1, 0, 0, 0, 7)));
        byte[] e = Model.publicKey(new byte[32]);
        for (int size : new int[] {0, 1, 992}) {
            Both one = d.another();
            one.setPattern("e");
            one.begin(0);
            one.fill(size);
            one.write(0).is(32 + size);
            byte[] want = Model.digest(Model.join(Model.digest(Model.join(h, e)), Model.counting(size)));
            one.deliver(1).is(size);
            for (int k = 0; k < 32; k++) {
                one.at(0, 2, k).is(want[k] & 255);
                one.at(1, 2, k).is(want[k] & 255);
            }
        }
    }

    /** It grows with each text that is sealed, and is 0 again when the key is mixed. */
    private static void numberInPattern(Both d) {
        d.greet("e s / e / psk / s / ee", 0, 0);
        int[] numbers = {2, 1, 1, 3, 0};
        for (int m = 0; m < 5; m++) {
            d.look(m % 2, 4).is(m == 0 ? 0 : 1);
            d.write(m % 2);
            d.look(m % 2, 5).is(numbers[m]);
            d.look(m % 2, 6).is(0);
            d.deliver(1 - m % 2).is(0);
            d.look(1 - m % 2, 5).is(numbers[m]);
            d.look(1 - m % 2, 6).is(0);
        }
    }

    private static void states(Both d) {
        d.look(0, 0).is(0);
        d.greet("e / e ee", 0, 0);
        d.look(0, 0).is(1);
        d.look(1, 0).is(2);
        d.write(0);
        d.look(0, 0).is(2);
        d.look(1, 0).is(2);
        d.deliver(1);
        d.look(1, 0).is(1);
        d.write(1);
        d.look(1, 0).is(3);
        d.look(0, 0).is(2);
        d.deliver(0);
        d.look(0, 0).is(3);
        Both failed = d.another();
        failed.greet("e / e ee", 0, 0);
        failed.deliver(1).is(-1);
        failed.look(1, 0).is(4);
        failed.look(0, 0).is(1);
        failed.write(0).is(32);
        failed.look(0, 0).is(2);
    }
}
