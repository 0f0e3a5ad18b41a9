/** The boundary cases of promises 21 and 22: what is to be seen, and what is not, in each state of a party. */
public final class SeeingEdgesTest {
    private static final int[] NO_BYTE = {-1, 32, 1024, Integer.MIN_VALUE, Integer.MAX_VALUE};

    public static void main(String[] args) {
        Edge.of("Promise 21", "there is no such party or what", SeeingEdgesTest::noSuchRow);
        Edge.of("Promise 21", "NoSuchElementException when there is no such byte", SeeingEdgesTest::noSuchByte);
        Edge.of("Promise 21", "OUT (what 0), IN (1)", SeeingEdgesTest::endsOfRows);
        Edge.of("Promise 21", "none of 2 to 5 before it has begun", SeeingEdgesTest::beforeBegin);
        Edge.of("Promise 21", "or when it has failed", SeeingEdgesTest::rowsOfFailed);
        Edge.of("Promise 21", "ck (3; in a pattern alone)", SeeingEdgesTest::chainKey);
        Edge.of("Promise 21", "key k (4, if there is one; once split: that with which it sends)", SeeingEdgesTest::key);
        Edge.of("Promise 21", "key with which it opens (5; once split)", SeeingEdgesTest::openingKey);
        Edge.of("Promise 22", "there is no such party or what", SeeingEdgesTest::noSuchFigure);
        Edge.of("Promise 22", "0 its state, 1 bytes of its OUT, 2 of its IN", SeeingEdgesTest::sizes);
        Edge.of("Promise 22", "3 messages of the pattern that it has done", SeeingEdgesTest::messagesDone);
        Edge.of("Promise 22", "4 whether there is a key (1, 0)", SeeingEdgesTest::whetherKey);
        Edge.of("Promise 22", "5 the number n (once split: for sending), 6 that for opening (0 before)",
            SeeingEdgesTest::numbers);
        Edge.of("Promise 22", "7 psks done", SeeingEdgesTest::psks);
        Edge.of("Terms", "4 to 7 of look are 0, and nothing of h, ck and keys is to be seen",
            SeeingEdgesTest::figuresOfFailed);
        Answer.end();
    }

    private static void noSuchRow(Both d) {
        Edge.inEachBegunState(d, begun -> {
            for (int party : Edge.NOT_0_1) {
                begun.at(party, 0, 0).refusesArgument();
                begun.at(party, 2, -1).refusesArgument();
            }
            for (int what : new int[] {-1, 6, Integer.MIN_VALUE, Integer.MAX_VALUE}) {
                begun.at(0, what, 0).refusesArgument();
                begun.at(1, what, -1).refusesArgument();
            }
        });
    }

    private static void noSuchByte(Both d) {
        d.greet("s1 : e es / e ee", 0, 1);
        for (int k : NO_BYTE) {
            d.at(0, 2, k).refusesElement();
            d.at(1, 3, k).refusesElement();
            d.at(1, 4, k).refusesElement();
        }
        for (int what = 2; what <= 4; what++) {
            d.at(1, what, 0);
            hasAll(d, 1, what);
        }
        d.write(1);
        d.deliver(0);
        for (int k : NO_BYTE) {
            d.at(0, 4, k).refusesElement();
            d.at(0, 5, k).refusesElement();
        }
    }

    private static void hasAll(Both d, int party, int what) {
        hasByte(d, party, what, 0, true);
        hasByte(d, party, what, 31, true);
        hasByte(d, party, what, 32, false);
    }

    private static void hasByte(Both d, int party, int what, int k, boolean want) {
        Answer got = d.at(party, what, k);
        if (want) {
            Answer.due(got.call, Boolean.toString(!got.text.startsWith("throws.")), "true");
        } else {
            got.refusesElement();
        }
    }

    private static void hasNone(Both d, int party, int what) {
        for (int k : new int[] {-1, 0, 31, 32}) {
            hasByte(d, party, what, k, false);
        }
    }

    private static void endsOfRows(Both d) {
        for (int party = 0; party < 2; party++) {
            hasNone(d, party, 0);
            hasNone(d, party, 1);
        }
        d.greet("e / e ee", 0, 0);
        d.fill(3);
        d.write(0).is(35);
        d.at(0, 0, 32).is(1);
        d.at(0, 0, 34).is(15);
        d.at(0, 0, 35).refusesElement();
        d.at(0, 0, -1).refusesElement();
        d.deliver(1).is(3);
        d.at(1, 1, 0).is(1);
        d.at(1, 1, 2).is(15);
        d.at(1, 1, 3).refusesElement();
        d.at(1, 1, -1).refusesElement();
        hasNone(d, 0, 1);
        hasNone(d, 1, 0);
        // A shorter one behind a longer one.
        d.write(1).is(48);
        d.deliver(0).is(0);
        d.write(0).is(16);
        d.at(0, 0, 16).refusesElement();
        d.at(0, 0, 34).refusesElement();
        d.deliver(1).is(0);
        d.at(1, 1, 0).refusesElement();
    }

    private static void beforeBegin(Both d) {
        d.known(1, 1);
        d.setPattern("e es / e ee");
        for (int what = 2; what < 6; what++) {
            hasNone(d, 0, what);
            hasNone(d, 1, what);
        }
        d.begin(0);
        d.write(0);
        d.deliver(1);
        hasAll(d, 0, 4);
        d.clear();
        for (int what = 2; what < 6; what++) {
            hasNone(d, 0, what);
            hasNone(d, 1, what);
        }
    }

    private static void rowsOfFailed(Both d) {
        d.greet("s1 : e es / e ee", 0, 1);
        d.write(1);
        d.alter(1, 47, 1);
        d.deliver(0).is(-1);
        for (int what = 1; what < 6; what++) {
            hasNone(d, 0, what);
        }
        // Its OUT stays, and the other one is as before.
        hasByte(d, 0, 0, 47, true);
        hasByte(d, 0, 0, 48, false);
        hasAll(d, 1, 2);
        hasAll(d, 1, 4);
        hasAll(d, 1, 5);
    }

    private static void chainKey(Both d) {
        hasNone(d, 0, 3);
        d.greet("e / e ee", 0, 0);
        hasAll(d, 0, 3);
        hasAll(d, 1, 3);
        d.write(0);
        d.deliver(1);
        hasAll(d, 0, 3);
        hasAll(d, 1, 3);
        d.write(1);
        hasNone(d, 1, 3);
        hasAll(d, 0, 3);
        d.deliver(0);
        hasNone(d, 0, 3);
        hasAll(d, 0, 2);
    }

    private static void key(Both d) {
        d.greet("e / e ee / s", 0, 0);
        hasNone(d, 0, 4);
        d.write(0);
        d.deliver(1);
        hasNone(d, 0, 4);
        hasNone(d, 1, 4);
        d.write(1);
        hasAll(d, 1, 4);
        hasNone(d, 0, 4);
        d.deliver(0);
        hasAll(d, 0, 4);
        for (int k = 0; k < 32; k++) {
            d.at(1, 4, k).is(Long.parseLong(d.at(0, 4, k).text));
        }
        d.write(0);
        hasAll(d, 0, 4);
        d.deliver(1);
        for (int k = 0; k < 32; k++) {
            d.at(1, 5, k).is(Long.parseLong(d.at(0, 4, k).text));
            d.at(0, 5, k).is(Long.parseLong(d.at(1, 4, k).text));
        }
        // Also behind a pattern that never had one.
        Both keyless = d.another();
        keyless.greetWhole("e / e", 0);
        hasAll(keyless, 0, 4);
        hasAll(keyless, 1, 4);
    }

    private static void openingKey(Both d) {
        hasNone(d, 0, 5);
        d.greet("s1 : e es / e ee", 0, 0);
        hasNone(d, 0, 5);
        d.write(0);
        d.deliver(1);
        hasNone(d, 0, 5);
        hasNone(d, 1, 5);
        d.write(1);
        hasAll(d, 1, 5);
        hasNone(d, 0, 5);
        d.deliver(0);
        hasAll(d, 0, 5);
    }

    private static void noSuchFigure(Both d) {
        Edge.inEachBegunState(d, begun -> {
            for (int party : Edge.NOT_0_1) {
                begun.look(party, 0).refusesArgument();
                begun.look(party, 8).refusesArgument();
            }
            for (int what : new int[] {-1, 8, Integer.MIN_VALUE, Integer.MAX_VALUE}) {
                begun.look(0, what).refusesArgument();
                begun.look(1, what).refusesArgument();
            }
        });
    }

    private static void figuresAre(Both d, int party, long... want) {
        for (int what = 0; what < want.length; what++) {
            d.look(party, what).is(want[what]);
        }
    }

    private static void sizes(Both d) {
        figuresAre(d, 0, 0, 0, 0);
        d.greet("e / e ee", 0, 0);
        d.fill(992);
        d.write(0).is(1024);
        d.deliver(1).is(992);
        figuresAre(d, 0, 2, 1024, 0);
        figuresAre(d, 1, 1, 0, 992);
        d.write(1).is(48);
        d.deliver(0).is(0);
        figuresAre(d, 0, 3, 1024, 0);
        figuresAre(d, 1, 3, 48, 992);
        d.write(0).is(16);
        d.deliver(1).is(0);
        figuresAre(d, 0, 3, 16, 0);
        figuresAre(d, 1, 3, 48, 0);
    }

    private static void messagesDone(Both d) {
        d.greet("e / e / s / s / ee / es / se / ss", 0, 0);
        for (int m = 0; m < 8; m++) {
            d.look(m % 2, 3).is(m);
            d.write(m % 2);
            d.look(m % 2, 3).is(m + 1);
            d.look(1 - m % 2, 3).is(m);
            d.deliver(1 - m % 2).is(0);
            d.look(1 - m % 2, 3).is(m + 1);
        }
        // What is sent once split is none of the pattern.
        d.write(0);
        d.deliver(1);
        d.look(0, 3).is(8);
        d.look(1, 3).is(8);
    }

    private static void whetherKey(Both d) {
        d.look(0, 4).is(0);
        d.greet("e / e ee", 0, 1);
        d.look(0, 4).is(0);
        d.look(1, 4).is(0);
        d.write(1);
        d.look(1, 4).is(1);
        d.look(0, 4).is(0);
        d.deliver(0);
        d.look(0, 4).is(1);
        Both early = d.another();
        early.greet("e psk / e", 0, 0);
        early.look(0, 4).is(0);
        early.write(0);
        early.look(0, 4).is(1);
        early.look(1, 4).is(0);
    }

    private static void numbers(Both d) {
        d.greet("s1 : e es / e ee", 0, 1);
        figuresAre(d, 0, 2, 48, 0, 1, 1, 1, 0);
        figuresAre(d, 1, 1, 0, 0, 1, 1, 1, 0);
        d.write(1);
        figuresAre(d, 1, 3, 48, 0, 2, 1, 0, 0);
        d.deliver(0);
        d.write(0);
        d.write(0);
        d.deliver(1).is(-1);
        d.number(1, false, 1);
        d.deliver(1).is(0);
        d.write(1);
        figuresAre(d, 0, 3, 16, 0, 2, 1, 2, 0);
        figuresAre(d, 1, 3, 16, 0, 2, 1, 1, 2);
        d.number(0, true, -1);
        d.number(0, false, Long.MIN_VALUE);
        figuresAre(d, 0, 3, 16, 0, 2, 1, -1, Long.MIN_VALUE);
        d.clear();
        figuresAre(d, 0, 0, 0, 0, 0, 0, 0, 0, 0);
    }

    private static void psks(Both d) {
        d.greet("e psk psk / e / psk / psk", 0, 0);
        int[] done = {2, 2, 3, 4};
        for (int m = 0; m < 4; m++) {
            d.look(m % 2, 7).is(m == 0 ? 0 : done[m - 1]);
            d.write(m % 2);
            d.look(m % 2, 7).is(done[m]);
            d.look(1 - m % 2, 7).is(m == 0 ? 0 : done[m - 1]);
            d.deliver(1 - m % 2).is(0);
            d.look(1 - m % 2, 7).is(done[m]);
        }
    }

    private static void figuresOfFailed(Both d) {
        d.greet("e psk / e ee psk", 0, 1);
        figuresAre(d, 0, 2, 48, 0, 1, 1, 1, 0, 1);
        d.write(1);
        d.alter(1, 0, 1);
        d.deliver(0).is(-1);
        figuresAre(d, 0, 4, 48, 0, 1, 0, 0, 0, 0);
        for (int what = 2; what < 6; what++) {
            hasNone(d, 0, what);
        }
    }
}
