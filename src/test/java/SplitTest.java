/** Promises 12 to 14, 16 and 17 behind the last message: the keys that both parties send on with. */
public final class SplitTest {
    public static void main(String[] args) {
        sendingOn();
        withoutAnyKeyBefore();
        rekeying();
        oneIsSplitFirst();
        Answer.end();
    }

    private static Both split(String pattern, int hash) {
        Both d = new Both(pattern + ", split, hash " + hash);
        d.greetWhole(pattern, hash);
        return d;
    }

    private static void sendingOn() {
        for (int hash = 0; hash < 2; hash++) {
            Both d = split("e / e ee", hash);
            for (int k = 0; k < 32; k++) {
                d.at(0, 4, k);
                d.at(0, 5, k);
            }
            for (int i = 0; i < 4; i++) {
                int party = i % 2;
                d.look(party, 5).is(i / 2);
                d.feed(i + 1, 0x04030201);
                d.write(party).is(17 + i);
                d.wipe().is(0);
                d.look(party, 5).is(i / 2 + 1);
                d.deliver(1 - party).is(i + 1);
                d.look(1 - party, 6).is(i / 2 + 1);
                d.at(1 - party, 1, i).is(i + 1);
                d.at(party, 0, 0);
                d.at(party, 0, 16 + i);
                d.at(party, 0, 17 + i).refusesElement();
            }
            d.write(0).is(16);
            for (int k = 0; k < 16; k++) {
                d.at(0, 0, k);
            }
            d.lookAll(0);
            d.lookAll(1);
            d.seeSome(1);
        }
    }

    private static void withoutAnyKeyBefore() {
        Both d = split("e / e", 1);
        d.look(0, 4).is(1);
        d.look(0, 5).is(0);
        d.look(0, 6).is(0);
        d.feed(1, 5);
        d.write(1).is(17);
        d.deliver(0).is(1);
        d.seeSome(0);
        d.seeSome(1);
    }

    private static void rekeying() {
        for (int hash = 0; hash < 2; hash++) {
            Both d = split("e / e ee", hash);
            d.write(0).is(16);
            d.deliver(1).is(0);
            d.rekey(0, true).isNothing();
            for (int k = 0; k < 32; k++) {
                d.at(0, 4, k);
                d.at(0, 5, k);
                d.at(1, 5, k);
            }
            d.look(0, 5).is(1);
            d.feed(2, 300);
            d.write(0).is(18);
            d.deliver(1).is(-1);
            d.rekey(1, true).isNothing();
            d.deliver(1).is(-1);
            d.rekey(1, false).isNothing();
            d.deliver(1).is(2);
            d.look(1, 6).is(2);
            d.write(1).is(16);
            d.deliver(0).is(-1);
            d.rekey(0, false).isNothing();
            d.deliver(0).is(0);
            d.rekey(0, true).isNothing();
            d.rekey(0, true).isNothing();
            d.seeSome(0);
            d.seeSome(1);
        }
    }

    /** The writer of the last message is split before its reader is. */
    private static void oneIsSplitFirst() {
        Both d = new Both("one is split first");
        d.setPattern("e / e ee");
        d.begin(0);
        d.write(0);
        d.deliver(1);
        d.write(1).is(48);
        d.look(1, 0).is(3);
        d.look(0, 0).is(2);
        d.deliver(1).is(-1);
        d.look(1, 0).is(3);
        d.feed(1, 1);
        d.write(1).is(17);
        d.deliver(0).is(-1);
        d.look(0, 0).is(4);
        d.write(1).is(16);
        d.deliver(0).refusesState();
    }
}
