/** Promises 4 to 8: how a pattern is put together, cleared, and held against the rules. */
public final class PatternTest {
    public static void main(String[] args) {
        clearing();
        ruleOne();
        ruleTwo();
        ruleThree();
        ruleFour();
        ruleFive();
        firstBrokenRule();
        goodPatterns();
        Answer.end();
    }

    private static void clearing() {
        Both d = new Both("clear");
        d.setKey(0, 0, Model.digest(Model.bytes(1)));
        d.setKey(0, 2, Model.bytes(9));
        d.setKey(1, 2, Model.bytes(9));
        d.feedAll(Model.digest(Model.bytes(2)));
        d.secret(0);
        d.hash(0);
        d.feed(4, 5);
        d.known(1, 1);
        d.setPattern("psk e es");
        d.say(6).is(1);
        d.begin(0).isNothing();
        d.write(0).is(52);
        d.deliver(1).is(4);
        d.feed(2, 3);
        d.clear().isNothing();
        for (int party = 0; party < 2; party++) {
            d.lookAll(party);
            d.look(party, 1).is(0);
            d.look(party, 2).is(0);
            d.at(party, 0, 0).refusesElement();
            d.at(party, 1, 0).refusesElement();
            d.at(party, 2, 0).refusesElement();
            d.at(party, 5, 0).refusesElement();
        }
        d.rule().is(-1);
        d.next().refusesState();
        d.result(0).is(0xe3);
        d.wipe().is(2);
        for (int i = 1; i <= 4; i++) {
            d.say(6).is(i);
        }
        d.say(6).refusesState();
        d.clear();
        d.setPattern("e es");
        d.rule().is(2);
        d.clear();
        d.known(1, 1);
        d.setPattern("psk e es");
        d.begin(0).isNothing();
        d.seeSome(0);
        d.write(0).is(48);
        d.seeSome(0);
        d.deliver(1).is(0);
    }

    private static void ruleIs(int want, String pattern) {
        Both d = new Both("rule of " + pattern);
        d.setPattern(pattern);
        d.rule().is(want);
        if (want == 0) {
            d.begin(0).isNothing();
            d.rule().is(0);
        } else {
            d.begin(0).refusesState();
            d.begin(2).refusesArgument();
        }
    }

    private static void ruleOne() {
        ruleIs(1, "e e");
        ruleIs(1, "e / e / e");
        ruleIs(1, "s / s / s");
        ruleIs(1, "e0 : e");
        ruleIs(1, "s0 : s");
        ruleIs(1, "e / e / e ee");
        ruleIs(1, "s1 : e es / s");
        ruleIs(0, "e1 : e");
        ruleIs(0, "s1 : s");
    }

    private static void ruleTwo() {
        ruleIs(2, "ee");
        ruleIs(2, "e ee");
        ruleIs(2, "ee / e");
        ruleIs(2, "e / ee");
        ruleIs(2, "e s / e se es");
        ruleIs(2, "e s / e ee es");
        ruleIs(2, "s / s es");
        ruleIs(2, "e / e se");
        ruleIs(2, "e0 s0 e1 : ss");
        ruleIs(2, "e0 s0 e1 : es");
        ruleIs(2, "e0 e1 s1 : se");
        ruleIs(0, "e0 s1 : es");
        ruleIs(0, "e0 e1 s0 : ee se");
    }

    private static void ruleThree() {
        ruleIs(3, "e / e ee ee");
        ruleIs(3, "e / e ee / ee");
        ruleIs(3, "s1 : e es es");
        ruleIs(3, "e1 s0 : e ee se / se");
        ruleIs(3, "s0 s1 : e es ss / e ee se / ss");
        ruleIs(2, "ee / e ee");
    }

    private static void ruleFour() {
        ruleIs(4, "s0 e1 : se");
        ruleIs(4, "s0 e1 : e se");
        ruleIs(0, "s0 e1 : e ee se");
        ruleIs(0, "s0 e1 : e se ee");
        ruleIs(4, "s0 s1 : ss");
        ruleIs(4, "s0 s1 : e ss");
        ruleIs(0, "s0 s1 : e es ss");
        ruleIs(0, "s0 s1 : e ss es");
        ruleIs(4, "e / s es");
        ruleIs(4, "e / e s es");
        ruleIs(0, "e / e ee s es");
        ruleIs(0, "e / e s es ee");
        ruleIs(4, "s0 s1 : e es ss / e ee");
        ruleIs(0, "s0 s1 : e es ss / e se ee");
        ruleIs(0, "e1 : s e se ee");
        ruleIs(4, "s1 e0 : s ss");
        ruleIs(4, "e0 s0 s1 : ss / e se");
        // The other party's lack is not looked at while this one sends.
        ruleIs(0, "s1 : e es");
        ruleIs(4, "s1 : e es / e");
        ruleIs(0, "s1 : e es / e ee");
        ruleIs(0, "e s / e se");
        ruleIs(4, "e s / e se / psk");
        ruleIs(0, "e s / e se / ee");
    }

    private static void ruleFive() {
        ruleIs(5, "psk");
        ruleIs(5, "s psk");
        ruleIs(5, "psk s e");
        ruleIs(0, "psk e s");
        ruleIs(0, "psk e");
        ruleIs(0, "e psk");
        ruleIs(5, "psk e / s");
        ruleIs(5, "e psk / s e");
        ruleIs(0, "e psk / e s");
        ruleIs(5, "e0 : psk");
        ruleIs(5, "e / psk");
        ruleIs(0, "e / e psk");
        ruleIs(0, "e / s / s / e psk");
        ruleIs(0, "s e psk / e");
        ruleIs(0, "s / e psk / e");
        ruleIs(5, "s / e psk / psk / e");
        // Only a sealed s is looked at: here there is no key by then.
        ruleIs(0, "s / s e psk / e");
    }

    private static void firstBrokenRule() {
        ruleIs(1, "e e ee");
        ruleIs(2, "e ee e");
        ruleIs(4, "s0 e1 : se / e");
        ruleIs(5, "psk / e / e e");
        ruleIs(1, "s0 s1 : ss s");
        ruleIs(4, "s0 s1 : ss psk");
        ruleIs(4, "s0 s1 : psk ss");
        ruleIs(3, "e0 e1 : ee ee psk");
        ruleIs(5, "e0 e1 : ee psk / ee");
        // A key from the first e on if a later message has a psk: then s is sealed, and looked at.
        ruleIs(0, "e s / e psk");
    }

    private static void goodPatterns() {
        for (String pattern : new String[] {
            "s1 : e es", "s0 s1 : e es ss", "s1 : e es s ss", "e / e ee", "e / e ee s es", "e / e ee s es / s se",
            "s0 s1 : e es ss / e ee se", "s1 : e es / e ee / s se", "e s / e ee se s es", "e s / e ee se",
            "psk e psk / psk e ee psk", "e / e / s / s / ee / es / se / ss"}) {
            ruleIs(0, pattern);
        }
    }
}
