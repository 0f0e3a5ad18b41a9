/** The boundary cases of promises 4 to 8, and of the terms that tell of patterns and their rules. */
public final class PatternEdgesTest {
    public static void main(String[] args) {
        Edge.of("Promise 4", "The pattern is empty, nothing begun", PatternEdgesTest::clearing);
        Edge.of("Promise 4", "OUT and IN of both are empty", PatternEdgesTest::clearedRows);
        Edge.of("Promise 4", "(keys, prelude and secrets stay)", PatternEdgesTest::whatStays);
        Edge.of("Promise 5", "there is no such party or which", PatternEdgesTest::noSuchKnown);
        Edge.of("Promise 5", "IllegalStateException when it has begun", PatternEdgesTest::knownOnceBegun);
        Edge.of("Promise 6", "it is not 0 .. 6", PatternEdgesTest::noSuchToken);
        Edge.of("Promise 6", "IllegalStateException when it has begun", PatternEdgesTest::sayOnceBegun);
        Edge.of("Promise 6", "there are 8 messages", PatternEdgesTest::ninthMessage);
        Edge.of("Promise 6", "this one has 8", PatternEdgesTest::ninthToken);
        Edge.of("Promise 6", "it is a fifth psk", PatternEdgesTest::fifthPsk);
        Edge.of("Promise 7", "IllegalStateException when it has begun", PatternEdgesTest::nextOnceBegun);
        Edge.of("Promise 7", "or that has no tokens", PatternEdgesTest::noTokens);
        Edge.of("Promise 8", "-1 when it has no message", PatternEdgesTest::noMessage);
        Edge.of("Promise 8", "(What is put together does not count.)", PatternEdgesTest::openMessage);
        Edge.of("Promise 8", "0 for none", PatternEdgesTest::noRuleBroken);
        Edge.of("Terms", "MESSAGES 1 .. 8, by party 0 and 1 in turn, each of 1 .. 8 TOKENS", PatternEdgesTest::largest);
        Edge.of("Terms", "psk (four at most in all)", PatternEdgesTest::fourPsks);
        Edge.of("Terms", "1 a key that was known beforehand, or sent, is sent", PatternEdgesTest::ruleOne);
        Edge.of("Terms", "2 an agreement of which a key is not known to both (beforehand or by now)",
            PatternEdgesTest::ruleTwo);
        Edge.of("Terms", "3 an agreement for the second time", PatternEdgesTest::ruleThree);
        Edge.of("Terms", "4 (looked at when the sender would seal something", PatternEdgesTest::ruleFour);
        Edge.of("Terms", "at s, if there is a key by then, and at the end of a message, if there is",
            PatternEdgesTest::whenSealing);
        Edge.of("Terms", "5 (likewise) there was a psk, and the sender has not sent e", PatternEdgesTest::ruleFive);
        Edge.of("Terms", "the first that is broken counts", PatternEdgesTest::firstBroken);
        Edge.of("Terms", "There is a KEY from the first agreement or psk on, also from the first e on",
            PatternEdgesTest::firstKey);
        Answer.end();
    }

    private static void isNew(Both d) {
        d.rule().is(-1);
        d.next().refusesState();
        d.begin(0).refusesState();
        for (int party = 0; party < 2; party++) {
            for (int what = 0; what < 8; what++) {
                d.look(party, what).is(0);
            }
            for (int what = 2; what < 6; what++) {
                d.at(party, what, 0).refusesElement();
            }
        }
    }

    private static void clearing(Both d) {
        d.clear().isNothing();
        isNew(d);
        Both open = d.another();
        open.known(0, 0);
        open.known(1, 1);
        open.say(6);
        open.say(6);
        open.clear().isNothing();
        isNew(open);
        for (int i = 1; i <= 4; i++) {
            open.say(6).is(i);
        }
        Both known = d.another();
        known.known(0, 0);
        known.known(0, 1);
        known.known(1, 0);
        known.known(1, 1);
        known.clear();
        known.setPattern("e s / e s");
        known.rule().is(0);
        Both full = d.another();
        full.setPattern("e / e / s / s / ee / es / se / ss psk psk psk psk");
        full.clear().isNothing();
        full.say(6).is(1);
        Edge.inEachBegunState(d, begun -> {
            begun.clear().isNothing();
            isNew(begun);
            begun.setPattern("e");
            begun.begin(1).isNothing();
        });
    }

    private static void clearedRows(Both d) {
        d.setPattern("e / e ee");
        d.begin(0);
        d.fill(3);
        d.write(0).is(35);
        d.deliver(1).is(3);
        d.fill(4);
        d.write(1).is(52);
        d.deliver(0).is(4);
        d.clear().isNothing();
        for (int party = 0; party < 2; party++) {
            d.look(party, 1).is(0);
            d.look(party, 2).is(0);
            d.at(party, 0, 0).refusesElement();
            d.at(party, 1, 0).refusesElement();
            d.alter(party, 0, 1).refusesElement();
        }
        d.setPattern("e");
        d.begin(0);
        d.look(0, 1).is(0);
        d.look(1, 2).is(0);
    }

    /** The same pattern, before and behind a clear, leads to the same h. */
    private static void whatStays(Both d) {
        d.setKeys();
        for (int k = 0; k < 4; k++) {
            d.feedAll(Model.digest(Model.bytes(k)));
            d.secret(k).isNothing();
        }
        d.setKey(0, 2, Model.bytes(1, 2));
        d.setKey(1, 2, Model.bytes(1, 2));
        d.fill(5);
        d.hash(1);
        d.fill(7);
        long[] before = null;
        for (int time = 0; time < 2; time++) {
            d.setPattern("e s / e s ee es se ss / psk psk psk psk");
            d.begin(0).isNothing();
            d.wipe().is(7);
            for (int m = 0; m < 3; m++) {
                d.write(m % 2);
                d.deliver(1 - m % 2).is(0);
            }
            long[] h = new long[32];
            for (int k = 0; k < 32; k++) {
                h[k] = Long.parseLong(d.at(1, 2, k).text);
                d.at(0, 2, k).is(before == null ? h[k] : before[k]);
            }
            before = h;
            d.fill(7);
            d.clear().isNothing();
        }
        d.wipe().is(7);
        byte[] result = Model.stir(Model.counting(5));
        d.result(0).is(result[0] & 255);
        d.result(31).is(result[31] & 255);
    }

    private static void noSuchKnown(Both d) {
        d.setPattern("ee");
        for (int bad : Edge.NOT_0_1) {
            d.known(bad, 0).refusesArgument();
            d.known(bad, 1).refusesArgument();
            d.known(0, bad).refusesArgument();
            d.known(1, bad).refusesArgument();
        }
        d.rule().is(2);
        d.known(0, 0).isNothing();
        d.known(0, 0).isNothing();
        d.rule().is(2);
        d.known(1, 0).isNothing();
        d.rule().is(0);
    }

    private static void knownOnceBegun(Both d) {
        Edge.inEachBegunState(d, begun -> {
            for (int i = 0; i < 4; i++) {
                begun.known(i / 2, i % 2).refusesState();
            }
            begun.clear();
            begun.known(1, 1).isNothing();
        });
    }

    private static void noSuchToken(Both d) {
        d.say(0).is(1);
        for (int bad : new int[] {-1, 7, Integer.MIN_VALUE, Integer.MAX_VALUE}) {
            d.say(bad).refusesArgument();
        }
        d.say(6).is(2);
    }

    private static void sayOnceBegun(Both d) {
        Edge.inEachBegunState(d, begun -> {
            begun.say(0).refusesState();
            begun.say(6).refusesState();
            begun.rule().is(0);
            begun.clear();
            begun.say(6).is(1);
        });
    }

    private static void ninthMessage(Both d) {
        for (int m = 1; m <= 8; m++) {
            d.say(m % 6).is(1);
            d.next().is(m);
        }
        for (int token = 0; token <= 6; token++) {
            d.say(token).refusesState();
        }
        d.next().refusesState();
    }

    private static void ninthToken(Both d) {
        for (int i = 1; i <= 8; i++) {
            d.say(0).is(i);
        }
        for (int token = 0; token <= 6; token++) {
            d.say(token).refusesState();
        }
        d.next().is(1);
        d.say(0).is(1);
    }

    private static void fifthPsk(Both d) {
        for (int i = 1; i <= 4; i++) {
            d.say(6).is(i);
        }
        d.say(6).refusesState();
        d.say(0).is(5);
        d.next().is(1);
        d.say(6).refusesState();
        d.say(0).is(1);
        d.next().is(2);
        Both spread = d.another();
        for (int m = 1; m <= 4; m++) {
            spread.say(0).is(1);
            spread.say(6).is(2);
            spread.next().is(m);
        }
        spread.say(6).refusesState();
        spread.say(5).is(1);
        Both last = d.another();
        last.setPattern("psk psk psk");
        last.say(6).is(1);
        last.say(6).refusesState();
    }

    private static void nextOnceBegun(Both d) {
        Edge.inEachBegunState(d, begun -> begun.next().refusesState());
        // With tokens that wait, too.
        d.setPattern("e");
        d.say(0).is(1);
        d.begin(0).isNothing();
        d.next().refusesState();
    }

    private static void noTokens(Both d) {
        d.next().refusesState();
        d.say(0).is(1);
        d.next().is(1);
        d.next().refusesState();
        d.rule().is(0);
        d.say(0).is(1);
        d.next().is(2);
        d.say(0).is(1);
        d.clear();
        d.next().refusesState();
        d.setPattern("e psk psk");
        d.next().refusesState();
        d.say(6).is(1);
        d.say(6).is(2);
        d.say(6).refusesState();
    }

    private static void noMessage(Both d) {
        d.rule().is(-1);
        d.known(0, 0);
        d.rule().is(-1);
        d.say(0).is(1);
        d.rule().is(-1);
        d.next().is(1);
        d.rule().is(1);
        d.clear();
        d.rule().is(-1);
    }

    /** Neither for the rules, nor as a psk of the pattern, which would give it a key from its first e on. */
    private static void openMessage(Both d) {
        d.setPattern("e s");
        d.rule().is(0);
        for (int token : new int[] {2, 2, 6, 0, 0}) {
            d.say(token);
            d.rule().is(0);
        }
        d.begin(0).isNothing();
        d.rule().is(0);
        d.fill(960);
        d.write(0).is(1024);
        d.look(0, 0).is(3);
        d.deliver(1).is(960);
    }

    private static void noRuleBroken(Both d) {
        d.setPattern("e / e ee");
        d.rule().is(0);
        Edge.inEachBegunState(d, begun -> begun.rule().is(0));
    }

    /** Eight messages, and a message of eight tokens. */
    private static void largest(Both d) {
        d.greetWhole("e / e / s / s / ee / es / se / ss", 0);
        d.look(0, 3).is(8);
        d.look(1, 3).is(8);
        d.write(1).is(16);
        d.deliver(0).is(0);
        Both eight = d.another();
        eight.greet("e s / e s ee es se ss psk psk", 1, 1);
        eight.write(1).is(32 + 48 + 16);
        eight.deliver(0).is(0);
        eight.look(0, 0).is(3);
        eight.seeSome(0);
        Both one = d.another();
        one.greetWhole("e", 0);
        one.look(1, 3).is(1);
    }

    private static void fourPsks(Both d) {
        d.greetWhole("psk psk e psk psk / e", 0);
        d.look(0, 7).is(4);
        d.look(1, 7).is(4);
        d.seeSome(0);
        d.seeSome(1);
    }

    private static void ruleIs(Both d, int want, String pattern) {
        Both one = new Both(d.name + ", pattern " + pattern);
        one.setPattern(pattern);
        one.rule().is(want);
        if (want == 0) {
            one.begin(0).isNothing();
        } else {
            one.begin(0).refusesState();
            one.begin(1).refusesState();
        }
    }

    private static void ruleOne(Both d) {
        ruleIs(d, 1, "e e");
        ruleIs(d, 1, "s s");
        ruleIs(d, 1, "e / e / e");
        ruleIs(d, 1, "s / e / s");
        ruleIs(d, 1, "e / e / s / e");
        ruleIs(d, 1, "e / s / s / s");
        ruleIs(d, 1, "e0 : e");
        ruleIs(d, 1, "s0 : s");
        ruleIs(d, 1, "e1 : e / e");
        ruleIs(d, 1, "s1 : e / s");
        // The other party's key is another one.
        ruleIs(d, 0, "e1 : e");
        ruleIs(d, 0, "s1 : s");
        ruleIs(d, 0, "e0 : s / e");
        ruleIs(d, 0, "s0 : e / s");
        ruleIs(d, 0, "e0 s1 : s / e");
    }

    private static void ruleTwo(Both d) {
        String[] agreements = {"ee", "es", "se", "ss"};
        for (String agreement : agreements) {
            String first = agreement.charAt(0) + "0";
            String second = agreement.charAt(1) + "1";
            ruleIs(d, 2, agreement);
            ruleIs(d, 2, first + " : " + agreement);
            ruleIs(d, 2, second + " : " + agreement);
            // All other keys than the one that it lacks.
            String others = "e0 s0 e1 s1";
            ruleIs(d, 2, others.replace(first, "").trim().replace("  ", " ") + " : " + agreement);
            ruleIs(d, 2, others.replace(second, "").trim().replace("  ", " ") + " : " + agreement);
        }
        // Sent just before and just behind the agreement.
        ruleIs(d, 0, "e1 : e ee");
        ruleIs(d, 2, "e1 : ee e");
        ruleIs(d, 0, "e / e ee");
        ruleIs(d, 2, "e / ee e");
        ruleIs(d, 0, "s1 : e es");
        ruleIs(d, 2, "s1 : es e");
        ruleIs(d, 0, "e1 : e s ee se");
        ruleIs(d, 2, "e1 : e se s");
        ruleIs(d, 2, "e / ee / e");
        // psk takes no key of either.
        ruleIs(d, 0, "e psk");
    }

    private static void ruleThree(Both d) {
        ruleIs(d, 3, "e0 e1 : ee ee");
        ruleIs(d, 3, "e0 s1 : es es");
        ruleIs(d, 3, "s0 e1 : se se");
        ruleIs(d, 3, "s0 s1 : ss ss");
        ruleIs(d, 3, "e / e ee / ee");
        ruleIs(d, 3, "e / e ee / s / ee");
        ruleIs(d, 3, "e0 s0 e1 s1 : ee es se ss ee");
        ruleIs(d, 0, "e0 s0 e1 s1 : ee es se ss");
        // A psk may come again.
        ruleIs(d, 0, "e psk psk");
    }

    /** Each of the four: s without the e that it needs, with it before, with it behind, with another one. */
    private static void ruleFour(Both d) {
        ruleIs(d, 4, "s0 e1 : e se");
        ruleIs(d, 0, "s0 e1 : e ee se");
        ruleIs(d, 0, "s0 e1 : e se ee");
        ruleIs(d, 4, "s0 e1 s1 : e se es");
        ruleIs(d, 4, "s0 s1 : e ss");
        ruleIs(d, 0, "s0 s1 : e es ss");
        ruleIs(d, 0, "s0 s1 : e ss es");
        ruleIs(d, 4, "s0 e1 s1 : e ss ee");
        ruleIs(d, 4, "s1 : e / e es");
        ruleIs(d, 0, "s1 : e / e ee es");
        ruleIs(d, 0, "s1 : e / e es ee");
        ruleIs(d, 4, "s0 s1 : e / e es se");
        ruleIs(d, 4, "s0 s1 : e / e ss");
        ruleIs(d, 0, "s0 s1 : e / e se ss");
        ruleIs(d, 0, "s0 s1 : e / e ss se");
        ruleIs(d, 4, "s0 s1 : e / e ss ee");
    }

    private static void whenSealing(Both d) {
        // At s: what is behind it in the message comes too late. (An s that was used breaks rule 1 there.)
        ruleIs(d, 1, "s0 e1 : se s");
        ruleIs(d, 5, "psk s e");
        ruleIs(d, 0, "psk e s");
        ruleIs(d, 5, "e psk / s e");
        ruleIs(d, 0, "e psk / e s");
        // No key by then: s goes open.
        ruleIs(d, 0, "s e psk / e");
        ruleIs(d, 0, "s / s e psk / e");
        ruleIs(d, 0, "e1 : s e se ee");
        // At the end of a message of the party that has used its s, not of the other one's.
        ruleIs(d, 0, "s1 : e es");
        ruleIs(d, 4, "s1 : e es / e");
        ruleIs(d, 0, "e s / e se");
        ruleIs(d, 4, "e s / e se / psk");
        ruleIs(d, 0, "e s / e se / ee");
    }

    private static void ruleFive(Both d) {
        ruleIs(d, 5, "psk");
        ruleIs(d, 5, "s psk");
        ruleIs(d, 0, "e psk");
        ruleIs(d, 0, "psk e");
        ruleIs(d, 5, "psk e / s");
        ruleIs(d, 0, "psk e / e");
        ruleIs(d, 5, "e / psk");
        ruleIs(d, 0, "e / e psk");
        ruleIs(d, 5, "s / e psk / psk");
        ruleIs(d, 0, "s / e psk / e");
        ruleIs(d, 0, "e / s / s / e psk");
        // Known beforehand is not sent.
        ruleIs(d, 5, "e0 : psk");
        ruleIs(d, 5, "e1 : e psk / s");
    }

    private static void firstBroken(Both d) {
        ruleIs(d, 1, "e e ee");
        ruleIs(d, 2, "e ee e");
        ruleIs(d, 3, "e0 e1 : ee ee e");
        ruleIs(d, 1, "e0 e1 : ee e ee");
        ruleIs(d, 4, "s0 e1 : se / e");
        ruleIs(d, 1, "s0 s1 : ss s");
        ruleIs(d, 2, "psk ee");
        ruleIs(d, 3, "e0 e1 : ee psk ee");
        ruleIs(d, 5, "e0 e1 : ee psk / ee");
        ruleIs(d, 5, "psk / e / e e");
        // 4 before 5 at the same place, whichever came first.
        ruleIs(d, 4, "s0 s1 : ss psk");
        ruleIs(d, 4, "s0 s1 : psk ss");
        ruleIs(d, 4, "s1 : e es psk / psk");
    }

    /** A key shows in the 16 bytes that sealing adds. */
    private static void firstKey(Both d) {
        sizesAre(d, "e s / e s", 64, 64);
        sizesAre(d, "e s / e ee s", 64, 96);
        sizesAre(d, "e s / e s ee", 64, 80);
        sizesAre(d, "s / e psk", 32, 48);
        sizesAre(d, "s e / e psk", 80, 48);
        sizesAre(d, "e s / e psk", 96, 48);
        sizesAre(d, "psk e s / e", 96, 48);
        sizesAre(d, "s1 e0 : es / e ee", 16, 48);
        // An e that is known beforehand gives no key.
        sizesAre(d, "e0 : s / e psk", 32, 48);
    }

    private static void sizesAre(Both d, String pattern, int first, int second) {
        Both one = new Both(d.name + ", pattern " + pattern);
        one.setPattern(pattern);
        one.begin(0).isNothing();
        one.look(0, 4).is(0);
        one.write(0).is(first);
        one.deliver(1).is(0);
        one.write(1).is(second);
        one.deliver(0).is(0);
    }
}
