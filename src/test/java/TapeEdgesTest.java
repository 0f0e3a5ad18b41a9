import java.util.HexFormat;
import java.util.function.Consumer;

/** The boundary cases of promises 1 to 3, 9 and 10, and of the terms that tell of the tape and of refused calls. */
public final class TapeEdgesTest {
    public static void main(String[] args) {
        Edge.of("What it is", "An object is used for at most 512 calls", TapeEdgesTest::manyCalls);
        Edge.of("Promise 1", "An empty pattern, nothing begun.", TapeEdgesTest::newObject);
        Edge.of("Terms", "The TAPE has at most 1024 bytes, none at first", TapeEdgesTest::tapeAtFirst);
        Edge.of("Promise 2", "n is not 1 .. 8", TapeEdgesTest::wrongCounts);
        Edge.of("Promise 2", "it would have more than 1024", TapeEdgesTest::fullTape);
        Edge.of("Promise 2", "The n lowest bytes of v, lowest first", TapeEdgesTest::lowestBytes);
        Edge.of("Promise 3", "The tape is empty: how many it had.", TapeEdgesTest::wiping);
        Edge.of("Terms", "a call that is said to read it uses it up", TapeEdgesTest::readingCalls);
        Edge.of("Terms", "a call that is said to read it uses it up", TapeEdgesTest::otherCalls);
        Edge.of("Terms", "Of several exceptions the first one told is thrown", TapeEdgesTest::firstOfSeveral);
        Edge.of("Terms", "a call that throws changes nothing", TapeEdgesTest::refusedInEachState);
        Edge.of("Terms", "All memory is the class's own.", TapeEdgesTest::ownMemory);
        Edge.of("Promise 9", "there is no such party or which", TapeEdgesTest::noSuchKey);
        Edge.of("Promise 9", "the tape has not 32 bytes", TapeEdgesTest::sizesOfKeys);
        Edge.of("Promise 9", "(0 .. 64 for 2)", TapeEdgesTest::sizesOfPreludes);
        Edge.of("Promise 9", "IllegalStateException when it has begun", TapeEdgesTest::keysOnceBegun);
        Edge.of("Terms", "the PRELUDE (at most 64 bytes)", TapeEdgesTest::preludesInH);
        Edge.of("Terms", "private keys E and S (32 bytes, all 0 at first)", TapeEdgesTest::keysAtFirst);
        Edge.of("Terms", "the SECRETS 0 .. 3 (32 bytes, all 0 at first; both have the same)",
            TapeEdgesTest::secretsAtFirst);
        Edge.of("Promise 10", "k is not 0 .. 3", TapeEdgesTest::noSuchSecret);
        Edge.of("Promise 10", "or the tape has not 32 bytes", TapeEdgesTest::sizesOfSecrets);
        Edge.of("Promise 10", "IllegalStateException when it has begun", TapeEdgesTest::secretsOnceBegun);
        Answer.end();
    }

    /** Its last call answers as its first ones did. */
    private static void manyCalls(Both d) {
        for (int i = 1; i <= 128; i++) {
            d.feed(8, i).is(8 * i);
        }
        for (int i = 0; i < 382; i++) {
            d.look(i % 2, i % 8).is(0);
        }
        d.wipe().is(1024);
        d.feed(1, 1).is(1);
    }

    private static void newObject(Both d) {
        d.rule().is(-1);
        d.next().refusesState();
        d.begin(0).refusesState();
        for (int party = 0; party < 2; party++) {
            for (int what = 0; what < 8; what++) {
                d.look(party, what).is(0);
            }
            for (int what = 0; what < 6; what++) {
                d.at(party, what, 0).refusesElement();
            }
        }
    }

    private static void tapeAtFirst(Both d) {
        d.wipe().is(0);
        d.hash(0).isNothing();
        d.resultIs("e3b0c44298fc1c149afbf4c8996fb92427ae41e4649b934ca495991b7852b855");
    }

    private static void wrongCounts(Both d) {
        d.feed(2, 5).is(2);
        for (int n : new int[] {0, 9, -1, -8, Integer.MIN_VALUE, Integer.MAX_VALUE}) {
            d.feed(n, -1).refusesArgument();
        }
        d.feed(1, 5).is(3);
        d.feed(8, 5).is(11);
    }

    /** For each n: a tape on which it has just room, and one that has a byte too many for it. */
    private static void fullTape(Both d) {
        for (int n = 1; n <= 8; n++) {
            Both full = d.another();
            full.fill(1024 - n);
            full.feed(n, 5).is(1024);
            full.feed(1, 5).refusesState();
            Both over = d.another();
            over.fill(1025 - n);
            over.feed(n, 5).refusesState();
            over.wipe().is(1025 - n);
        }
    }

    private static void lowestBytes(Both d) {
        hashIs(d, 1, -1L, 255);
        hashIs(d, 1, 0x100L, 0);
        hashIs(d, 3, 0x7766554433221100L, 0, 0x11, 0x22);
        hashIs(d, 7, -2L, 254, 255, 255, 255, 255, 255, 255);
        hashIs(d, 8, Long.MIN_VALUE, 0, 0, 0, 0, 0, 0, 0, 128);
        hashIs(d, 8, Long.MAX_VALUE, 255, 255, 255, 255, 255, 255, 255, 127);
    }

    private static void hashIs(Both d, int n, long v, int... bytes) {
        d.feed(n, v).is(n);
        d.hash(0).isNothing();
        byte[] want = Model.digest(Model.bytes(bytes));
        for (int k = 0; k < 32; k++) {
            d.result(k).is(want[k] & 255);
        }
    }

    private static void wiping(Both d) {
        d.wipe().is(0);
        d.fill(1024);
        d.wipe().is(1024);
        d.wipe().is(0);
        d.feed(1, 5).is(1);
        d.wipe().is(1);
        hashIs(d, 1, 7, 7);
    }

    private static void readingCalls(Both d) {
        for (int which = 0; which < 3; which++) {
            d.fill(32);
            d.key(0, which).isNothing();
            d.wipe().is(0);
        }
        d.fill(32);
        d.secret(0).isNothing();
        d.wipe().is(0);
        d.fill(5);
        d.hash(1).isNothing();
        d.wipe().is(0);
        d.fill(64);
        d.agree().isNothing();
        d.wipe().is(0);
        d.setPattern("e");
        d.begin(0);
        d.fill(5);
        d.write(0).is(37);
        d.wipe().is(0);
        d.fill(35);
        d.read(1).is(3);
        d.wipe().is(0);
        d.fill(5);
        d.write(0).is(21);
        d.wipe().is(0);
        d.fill(35);
        d.read(1).is(-1);
        d.wipe().is(0);
    }

    private static void otherCalls(Both d) {
        d.fill(3);
        d.known(1, 1);
        d.setPattern("e es");
        d.rule().is(0);
        d.begin(0).isNothing();
        d.wipe().is(3);
        d.write(0).is(48);
        d.fill(4);
        d.alter(0, 0, 0);
        d.deliver(1).is(0);
        d.number(0, true, 9);
        d.rekey(1, false);
        d.deliver(1).is(-1);
        d.look(0, 0).is(3);
        d.at(0, 0, 0);
        d.result(0).is(0);
        d.wipe().is(4);
        d.fill(6);
        d.clear();
        d.wipe().is(6);
    }

    private static void firstOfSeveral(Both d) {
        // Not begun, not split, no message, an empty OUT: what comes first is the wrong argument.
        d.begin(2).refusesArgument();
        d.write(2).refusesArgument();
        d.read(-1).refusesArgument();
        d.deliver(2).refusesArgument();
        d.alter(-1, -1, 1).refusesArgument();
        d.number(2, true, 1).refusesArgument();
        d.rekey(2, false).refusesArgument();
        d.at(2, 0, -1).refusesArgument();
        d.at(0, 6, -1).refusesArgument();
        d.setPattern("e / ee");
        d.begin(-1).refusesArgument();
        d.clear();
        Both begun = d.another();
        begun.greet("e / e ee", 0, 0);
        begun.known(2, 0).refusesArgument();
        begun.known(0, 2).refusesArgument();
        begun.say(7).refusesArgument();
        begun.key(2, 0).refusesArgument();
        begun.key(0, 3).refusesArgument();
        begun.key(0, 0).refusesArgument();
        begun.secret(0).refusesArgument();
        begun.begin(2).refusesArgument();
        begun.fill(32);
        begun.secret(4).refusesArgument();
        Both full = d.another();
        full.fill(1024);
        full.feed(9, 1).refusesArgument();
        full.feed(0, 1).refusesArgument();
        Both eight = d.another();
        eight.setPattern("e / e / s / s / ee / es / se / ss");
        eight.say(-1).refusesArgument();
    }

    /** Every call that can be refused, in each state that refuses it, with bytes on the tape. */
    private static void refusedInEachState(Both d) {
        Both fresh = d.another();
        fresh.fill(33);
        fresh.say(6);
        refuseWithoutState(fresh);
        refuseBeforeBegin(fresh);
        onceBegun(d, 0, TapeEdgesTest::refuseOnceBegun);
        onceBegun(d, 1, TapeEdgesTest::refuseOnceBegun);
        Both failed = d.another();
        failed.greet("e / e ee", 1, 0);
        failed.read(1).is(-1);
        failed.fill(33);
        refuseOnceBegun(failed);
        refuseOfUnsplit(failed, 1);
    }

    private static void onceBegun(Both d, int messages, Consumer<Both> test) {
        Both begun = d.another();
        begun.greet("e / e ee", 1, messages);
        begun.fill(33);
        test.accept(begun);
    }

    private static void refuseWithoutState(Both d) {
        d.feed(0, 1).refusesArgument();
        d.known(0, 2).refusesArgument();
        d.say(7).refusesArgument();
        d.key(0, 0).refusesArgument();
        d.secret(0).refusesArgument();
        d.begin(2).refusesArgument();
        d.hash(2).refusesArgument();
        d.agree().refusesArgument();
        d.result(32).refusesElement();
        d.look(0, 8).refusesArgument();
        d.at(0, 6, 0).refusesArgument();
        d.at(0, 0, -1).refusesElement();
        d.alter(0, -1, 255).refusesElement();
    }

    private static void refuseBeforeBegin(Both d) {
        d.begin(0).refusesState();
        refuseOfUnsplit(d, 0);
        refuseOfUnsplit(d, 1);
    }

    private static void refuseOfUnsplit(Both d, int party) {
        d.write(party).refusesState();
        d.read(party).refusesState();
        d.deliver(party).refusesState();
        d.number(party, true, 7).refusesState();
        d.number(party, false, 7).refusesState();
        d.rekey(party, true).refusesState();
        d.rekey(party, false).refusesState();
    }

    private static void refuseOnceBegun(Both d) {
        refuseWithoutState(d);
        d.known(0, 1).refusesState();
        d.say(0).refusesState();
        d.next().refusesState();
        d.key(0, 2).refusesState();
        d.begin(0).refusesState();
    }

    private static void ownMemory(Both d) {
        Both other = d.another();
        d.greet("e / e ee", 0, 1);
        other.greet("e / e ee s es", 1, 0);
        d.fill(40);
        other.fill(3);
        d.write(1).is(88);
        other.write(0).is(35);
        other.deliver(1).is(3);
        d.deliver(0).is(40);
        other.seeSome(0);
        other.seeSome(1);
        d.seeSome(0);
        d.seeSome(1);
        other.clear();
        other.fill(2);
        d.hash(0);
        other.result(0).is(0);
        other.wipe().is(2);
        d.write(0).is(16);
        d.deliver(1).is(0);
        d.lookAll(1);
    }

    private static void noSuchKey(Both d) {
        d.fill(32);
        for (int party : Edge.NOT_0_1) {
            d.key(party, 0).refusesArgument();
            d.key(party, 2).refusesArgument();
        }
        for (int which : new int[] {-1, 3, Integer.MIN_VALUE, Integer.MAX_VALUE}) {
            d.key(0, which).refusesArgument();
            d.key(1, which).refusesArgument();
        }
        d.wipe().is(32);
    }

    private static void sizesOfKeys(Both d) {
        for (int size : new int[] {0, 1, 31, 33, 64, 1024}) {
            Both wrong = d.another();
            wrong.setKeys();
            wrong.fill(size);
            for (int party = 0; party < 2; party++) {
                wrong.key(party, 0).refusesArgument();
                wrong.key(party, 1).refusesArgument();
            }
            wrong.wipe().is(size);
        }
        for (int party = 0; party < 2; party++) {
            for (int which = 0; which < 2; which++) {
                d.fill(32);
                d.key(party, which).isNothing();
            }
        }
    }

    private static void sizesOfPreludes(Both d) {
        for (int party = 0; party < 2; party++) {
            for (int size : new int[] {0, 1, 31, 32, 33, 63, 64}) {
                d.fill(size);
                d.key(party, 2).isNothing();
                d.wipe().is(0);
            }
            for (int size : new int[] {65, 66, 1024}) {
                Both wrong = d.another();
                wrong.setKey(party, 2, Model.bytes(5));
                wrong.fill(size);
                wrong.key(party, 2).refusesArgument();
                wrong.wipe().is(size);
            }
        }
    }

    private static void keysOnceBegun(Both d) {
        Edge.inEachBegunState(d, one -> {
            one.key(0, 2).refusesState();
            one.key(1, 2).refusesState();
            one.fill(32);
            one.key(0, 0).refusesState();
            one.key(1, 1).refusesState();
            one.wipe().is(32);
            one.clear();
            one.key(0, 2).isNothing();
            one.fill(32);
            one.key(0, 0).isNothing();
        });
    }

    /** Behind a longer prelude a shorter one leaves nothing of it, and none at all is mixed in, too. */
    private static void preludesInH(Both d) {
        byte[] first = Model.digest(Model.bytes(0, 1, 0, 0, 0, 7));
        for (int size : new int[] {64, 63, 1, 0}) {
            byte[] prelude = Model.counting(size);
            byte[] want = Model.digest(Model.join(first, prelude));
            d.setKey(0, 2, prelude);
            d.setPattern("e");
            d.begin(0).isNothing();
            for (int k = 0; k < 32; k++) {
                d.at(0, 2, k).is(want[k] & 255);
                d.at(0, 3, k).is(first[k] & 255);
            }
            d.at(1, 2, 0).is(Model.digest(first)[0] & 255);
            d.clear();
        }
    }

    /** The public key of 32 0s. */
    private static void keysAtFirst(Both d) {
        byte[] want = HexFormat.of().parseHex("2fe57da347cd62431528daac5fbb290730fff684afc4cfc2ed90995f58cb3b74");
        d.setPattern("e s / s e");
        d.begin(0).isNothing();
        d.write(0).is(64);
        d.deliver(1).is(0);
        d.write(1).is(64);
        for (int party = 0; party < 2; party++) {
            for (int k = 0; k < 64; k++) {
                d.at(party, 0, k).is(want[k % 32] & 255);
            }
        }
    }

    /** Secrets of 32 0s that are set lead to the same h as those that were not, for each psk and both parties. */
    private static void secretsAtFirst(Both d) {
        Both set = d.another();
        for (int k = 0; k < 4; k++) {
            set.feedAll(new byte[32]);
            set.secret(k).isNothing();
        }
        for (Both one : new Both[] {d, set}) {
            one.setPattern("e psk psk psk psk");
            one.begin(0).isNothing();
            one.write(0).is(48);
            one.deliver(1).is(0);
        }
        for (int k = 0; k < 32; k++) {
            long want = Long.parseLong(d.at(0, 2, k).text);
            d.at(1, 2, k).is(want);
            set.at(0, 2, k).is(want);
            set.at(1, 2, k).is(want);
        }
    }

    private static void noSuchSecret(Both d) {
        d.fill(32);
        for (int k : new int[] {-1, 4, Integer.MIN_VALUE, Integer.MAX_VALUE}) {
            d.secret(k).refusesArgument();
        }
        d.wipe().is(32);
        for (int k = 0; k < 4; k++) {
            d.fill(32);
            d.secret(k).isNothing();
            d.wipe().is(0);
        }
    }

    private static void sizesOfSecrets(Both d) {
        for (int size : new int[] {0, 1, 31, 33, 64, 1024}) {
            Both wrong = d.another();
            wrong.fill(32);
            wrong.secret(0).isNothing();
            wrong.fill(size);
            wrong.secret(0).refusesArgument();
            wrong.secret(3).refusesArgument();
            wrong.wipe().is(size);
        }
    }

    private static void secretsOnceBegun(Both d) {
        Edge.inEachBegunState(d, one -> {
            one.fill(32);
            one.secret(0).refusesState();
            one.secret(3).refusesState();
            one.clear();
            one.secret(0).isNothing();
            one.wipe().is(0);
        });
    }
}
