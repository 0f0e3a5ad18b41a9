/** Promises 12 to 14, 16 and 17 behind the last message: the keys that both parties send on with. */
public final class SplitTest {
    public static void main(String[] args) {
        sendingOn();
        withoutAnyKeyBefore();
        silentParty();
        failingToOpen();
        numbers();
        numbersOfOthers();
        lastNumber();
        rekeying();
        sizes();
        oneIsSplitFirst();
        Answer.end();
    }

    private static Both split(String pattern, int hash) {
        Both d = new Both(pattern + ", split, hash " + hash);
        d.setKeys();
        d.setPattern(pattern);
        d.begin(hash).isNothing();
        for (int m = 0; m < d.model.messages.size(); m++) {
            d.write(m % 2);
            d.deliver(1 - m % 2).is(0);
        }
        d.look(0, 0).is(3);
        d.look(1, 0).is(3);
        return d;
    }

    private static void sendingOn() {
        for (int hash = 0; hash < 2; hash++) {
            Both d = split("e / e ee", hash);
            for (int k = 0; k < 32; k++) {
                d.at(0, 4, k);
                d.at(0, 5, k);
            }
            for (int i = 0; i < 4; i++) {
                int party = i % 2;
                d.look(party, 5).is(i / 2);
                d.feed(i + 1, 0x04030201);
                d.write(party).is(17 + i);
                d.wipe().is(0);
                d.look(party, 5).is(i / 2 + 1);
                d.deliver(1 - party).is(i + 1);
                d.look(1 - party, 6).is(i / 2 + 1);
                d.at(1 - party, 1, i).is(i + 1);
                d.at(party, 0, 0);
                d.at(party, 0, 16 + i);
                d.at(party, 0, 17 + i).refusesElement();
            }
            d.write(0).is(16);
            for (int k = 0; k < 16; k++) {
                d.at(0, 0, k);
            }
            d.lookAll(0);
            d.lookAll(1);
            d.seeSome(1);
        }
    }

    private static void withoutAnyKeyBefore() {
        Both d = split("e / e", 1);
        d.look(0, 4).is(1);
        d.look(0, 5).is(0);
        d.look(0, 6).is(0);
        d.feed(1, 5);
        d.write(1).is(17);
        d.deliver(0).is(1);
        d.seeSome(0);
        d.seeSome(1);
    }

    private static void silentParty() {
        Both d = split("s1 : e es", 0);
        d.feed(5, 5);
        d.write(1).refusesState();
        d.read(0).refusesState();
        d.deliver(0).refusesState();
        d.wipe().is(5);
        d.write(2).refusesArgument();
        d.write(0).is(16);
        d.deliver(1).is(0);
        d.number(1, true, 3).isNothing();
        d.number(0, false, 3).isNothing();
        d.write(1).refusesState();
        d.deliver(0).refusesState();
        d.rekey(1, true).isNothing();
        d.rekey(0, false).isNothing();
        d.seeSome(0);
        d.seeSome(1);
        Both e = split("e / e ee", 0);
        e.write(1).is(16);
        e.deliver(0).is(0);
    }

    private static void failingToOpen() {
        Both d = split("e / e ee", 0);
        d.feed(3, 7);
        d.write(0).is(19);
        d.deliver(1).is(3);
        d.look(1, 2).is(3);
        d.deliver(1).is(-1);
        d.look(1, 2).is(0);
        d.look(1, 0).is(3);
        d.look(1, 6).is(1);
        d.at(1, 1, 0).refusesElement();
        d.seeSome(1);
        d.feed(2, 7);
        d.write(0).is(18);
        for (int i : new int[] {0, 1, 2, 17}) {
            d.alter(0, i, 16);
            d.deliver(1).is(-1);
            d.look(1, 6).is(1);
            d.alter(0, i, 16);
        }
        d.deliver(1).is(2);
        d.look(1, 6).is(2);
        d.feedAll(new byte[15]);
        d.read(1).is(-1);
        d.wipe().is(0);
        d.read(1).is(-1);
        d.feedAll(new byte[16]);
        d.read(1).is(-1);
        d.look(1, 0).is(3);
        byte[] sealed = Model.cipher(true, d.model.sides[1].openKey, 2, Model.NONE, Model.bytes(9, 8));
        d.feedAll(sealed);
        d.read(1).is(2);
        d.at(1, 1, 0).is(9);
        d.at(1, 1, 1).is(8);
    }

    private static void numbers() {
        Both d = new Both("number");
        d.number(0, true, 1).refusesState();
        d.setPattern("e / e ee");
        d.number(0, true, 1).refusesState();
        d.begin(0);
        d.number(0, true, 1).refusesState();
        d.number(1, false, 1).refusesState();
        d.write(0);
        d.deliver(1);
        d.write(1);
        d.number(0, true, 1).refusesState();
        d.rekey(0, true).refusesState();
        d.deliver(0).is(0);
        for (int bad : new int[] {-1, 2, Integer.MIN_VALUE, Integer.MAX_VALUE}) {
            d.number(bad, true, 1).refusesArgument();
            d.rekey(bad, true).refusesArgument();
        }
        d.number(0, true, 5).isNothing();
        d.look(0, 5).is(5);
        d.look(0, 6).is(0);
        d.number(0, false, Long.MIN_VALUE).isNothing();
        d.look(0, 5).is(5);
        d.look(0, 6).is(Long.MIN_VALUE);
        d.look(1, 5).is(0);
        d.look(1, 6).is(0);
        d.clear();
        d.number(0, true, 1).refusesState();
        d.rekey(0, true).refusesState();
    }

    private static void numbersOfOthers() {
        for (long v : new long[] {1, 255, 256, 0xffffffffL, 0x100000000L, Long.MAX_VALUE, Long.MIN_VALUE, -2}) {
            Both d = split("e / e ee", 1);
            d.number(1, true, v).isNothing();
            d.feed(8, 1);
            d.write(1).is(24);
            for (int k = 0; k < 24; k++) {
                d.at(1, 0, k);
            }
            d.deliver(0).is(-1);
            d.number(0, false, v).isNothing();
            d.deliver(0).is(8);
            d.look(0, 6).is(v + 1);
            d.look(1, 5).is(v + 1);
        }
    }

    private static void lastNumber() {
        Both d = split("e / e ee", 0);
        d.number(0, true, -2).isNothing();
        d.number(1, false, -2).isNothing();
        d.feed(1, 1);
        d.write(0).is(17);
        d.deliver(1).is(1);
        d.look(0, 5).is(-1);
        d.look(1, 6).is(-1);
        d.feed(1, 1);
        d.write(0).refusesState();
        d.deliver(1).refusesState();
        d.read(1).refusesState();
        d.wipe().is(1);
        d.look(1, 2).is(1);
        d.write(1).is(16);
        d.deliver(0).is(0);
        d.number(0, true, 0).isNothing();
        d.number(1, false, 0).isNothing();
        d.write(0).is(16);
        d.deliver(1).is(0);
    }

    private static void rekeying() {
        for (int hash = 0; hash < 2; hash++) {
            Both d = split("e / e ee", hash);
            d.write(0).is(16);
            d.deliver(1).is(0);
            d.rekey(0, true).isNothing();
            for (int k = 0; k < 32; k++) {
                d.at(0, 4, k);
                d.at(0, 5, k);
                d.at(1, 5, k);
            }
            d.look(0, 5).is(1);
            d.feed(2, 300);
            d.write(0).is(18);
            d.deliver(1).is(-1);
            d.rekey(1, true).isNothing();
            d.deliver(1).is(-1);
            d.rekey(1, false).isNothing();
            d.deliver(1).is(2);
            d.look(1, 6).is(2);
            d.write(1).is(16);
            d.deliver(0).is(-1);
            d.rekey(0, false).isNothing();
            d.deliver(0).is(0);
            d.rekey(0, true).isNothing();
            d.rekey(0, true).isNothing();
            d.seeSome(0);
            d.seeSome(1);
        }
    }

    private static void sizes() {
        Both d = split("e / e ee", 0);
        d.feedAll(new byte[1009]);
        d.write(0).refusesState();
        d.wipe().is(1009);
        d.feedAll(new byte[1008]);
        d.write(0).is(1024);
        for (int k = 0; k < 1024; k += 61) {
            d.at(0, 0, k);
        }
        for (int k = 1008; k < 1024; k++) {
            d.at(0, 0, k);
        }
        d.deliver(1).is(1008);
        d.look(1, 2).is(1008);
        d.at(1, 1, 1007).is(0);
        d.at(1, 1, 1008).refusesElement();
    }

    /** The writer of the last message is split before its reader is. */
    private static void oneIsSplitFirst() {
        Both d = new Both("one is split first");
        d.setPattern("e / e ee");
        d.begin(0);
        d.write(0);
        d.deliver(1);
        d.write(1).is(48);
        d.look(1, 0).is(3);
        d.look(0, 0).is(2);
        d.deliver(1).is(-1);
        d.look(1, 0).is(3);
        d.feed(1, 1);
        d.write(1).is(17);
        d.deliver(0).is(-1);
        d.look(0, 0).is(4);
        d.write(1).is(16);
        d.deliver(0).refusesState();
    }
}
