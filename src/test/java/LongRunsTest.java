import java.util.ArrayList;
import java.util.List;
import java.util.function.Consumer;

/**
 * All promises up to the 512th call: one object goes through many patterns, with both hashes, with clear
 * between them; keys, preludes and secrets are set once, in front.
 */
public final class LongRunsTest {
    private static final int CALLS = 512;
    /** More than any greeting here takes, with clear and all. */
    private static final int GREETING = 80;
    private static final String[] PATTERNS = {
        "e / e ee s es / s se", "s1 : psk e es", "s0 s1 : e es ss / e ee se", "e psk / e ee psk / psk / psk",
        "e s", "s1 : e es s ss / e ee se", "e / e / s / s / ee / es / se / ss", "e0 e1 s0 s1 : ee es se ss",
    };

    private final Both desk;
    private int greetings;

    private LongRunsTest(String name) {
        desk = new Both(name);
    }

    public static void main(String[] args) {
        for (int start = 0; start < PATTERNS.length; start++) {
            new LongRunsTest("patterns in turn, from " + start).throughPatterns(start);
        }
        for (String pattern : PATTERNS) {
            for (int hash = 0; hash < 2; hash++) {
                new LongRunsTest("again and again: " + pattern + ", hash " + hash).againAndAgain(pattern, hash);
            }
        }
        for (int hash = 0; hash < 2; hash++) {
            new LongRunsTest("failures between greetings, hash " + hash).withFailures(hash);
            new LongRunsTest("messages behind one split, hash " + hash).manyMessages(hash);
        }
        everyLastCall();
        Answer.end();
    }

    private boolean hasRoom() {
        return desk.calls + GREETING <= CALLS;
    }

    /** Only looks, so that the run's last calls are asked on what all those before have left. */
    private void lookToTheEnd() {
        for (int i = 0; desk.calls < CALLS; i++) {
            if (i % 3 == 0) {
                desk.look(i & 1, i / 3 % 8);
            } else {
                desk.at(i & 1, i % 6, i / 6 % 32);
            }
        }
        Answer.due(desk.name + ": calls", Integer.toString(desk.calls), Integer.toString(CALLS));
    }

    private void setAllOnce() {
        desk.setKeys();
        for (int k = 0; k < 4; k++) {
            desk.feedAll(Model.digest(Model.bytes(9, k)));
            desk.secret(k).isNothing();
        }
        for (int party = 0; party < 2; party++) {
            desk.fill(21);
            desk.key(party, 2).isNothing();
        }
    }

    private void throughPatterns(int start) {
        setAllOnce();
        for (int i = start; hasRoom(); i++) {
            // The hash changes behind each round too, so that every pattern meets both.
            greetOn(PATTERNS[i % PATTERNS.length], i + i / PATTERNS.length & 1);
            desk.clear().isNothing();
        }
        Answer.due(desk.name + ": whether it had several greetings", "" + (greetings >= 7), "true");
        lookToTheEnd();
    }

    /** From the pattern's first token to messages behind the split. */
    private void greetOn(String pattern, int hash) {
        desk.rule().is(-1);
        desk.setPattern(pattern);
        desk.rule().is(0);
        desk.begin(hash).isNothing();
        int messages = pattern.split("/").length;
        for (int m = 0; m < messages; m++) {
            send(m % 2, 3 + m);
        }
        desk.look(0, 0).is(3);
        desk.look(1, 0).is(3);
        sameKeys();
        send(0, 70);
        if (messages > 1) {
            send(1, 0);
        } else {
            // Held against the model alone: twins would make all calls of the run again.
            desk.write(1);
            desk.deliver(0);
        }
        greetings++;
    }

    /** At most three calls up to 24 bytes. */
    private void send(int party, int size) {
        desk.fill(size);
        desk.write(party);
        desk.deliver(1 - party).is(size);
    }

    private void sameKeys() {
        for (int party = 0; party < 2; party++) {
            desk.at(1 - party, 5, 7).is(Long.parseLong(desk.at(party, 4, 7).text));
        }
    }

    /** With the same keys and the same pattern nothing is another way the last time than the first. */
    private void againAndAgain(String pattern, int hash) {
        setAllOnce();
        List<String> first = null;
        while (hasRoom()) {
            greetOn(pattern, hash);
            List<String> seen = seenNow();
            first = first == null ? seen : first;
            Answer.due(desk.name + ": greeting " + greetings, seen.toString(), first.toString());
            desk.clear().isNothing();
        }
        Answer.due(desk.name + ": whether it was done again", "" + (greetings >= 4), "true");
        lookToTheEnd();
    }

    private List<String> seenNow() {
        List<String> seen = new ArrayList<>();
        for (int party = 0; party < 2; party++) {
            for (int what = 0; what < 6; what++) {
                seen.add(desk.at(party, what, 5).text);
            }
        }
        return seen;
    }

    /** What a failed party, or a message put together only in part, leaves does not reach the next greeting. */
    private void withFailures(int hash) {
        setAllOnce();
        for (int i = 0; desk.calls + 2 * GREETING <= CALLS; i++) {
            desk.setPattern(PATTERNS[i % PATTERNS.length]);
            desk.begin(hash).isNothing();
            desk.fill(5);
            desk.write(0);
            desk.feed(5, i);
            desk.read(1).is(-1);
            desk.look(1, 0).is(4);
            desk.feed(2, i);
            desk.write(1).refusesState();
            desk.clear().isNothing();
            desk.wipe().is(2);
            desk.known(i & 1, i >> 1 & 1).isNothing();
            desk.say(6).is(1);
            desk.clear().isNothing();
            desk.next().refusesState();
            greetOn(PATTERNS[(i + 3) % PATTERNS.length], 1 - hash);
            desk.clear().isNothing();
        }
        Answer.due(desk.name + ": whether it had several greetings", "" + (greetings >= 4), "true");
        lookToTheEnd();
    }

    private void manyMessages(int hash) {
        setAllOnce();
        greetOn(PATTERNS[0], hash);
        int[] sent = {1, 1};
        for (int i = 0; hasRoom(); i++) {
            int party = i % 3 & 1;
            send(party, i % 20);
            sent[party]++;
            desk.look(party, 5).is(sent[party]);
            desk.look(1 - party, 6).is(sent[party]);
            if (i % 7 == 0) {
                desk.rekey(party, true).isNothing();
                desk.rekey(1 - party, false).isNothing();
                sameKeys();
            }
        }
        lookToTheEnd();
    }

    /** Each call of the face as the 512th one, behind many greetings; what answers nothing with a look behind it. */
    private static void everyLastCall() {
        last("feed", 511, d -> d.feed(8, 5).is(8));
        last("feed, refused", 511, d -> d.feed(9, 5).refusesArgument());
        last("wipe", 511, d -> d.wipe().is(0));
        last("clear", 510, d -> {
            d.clear().isNothing();
            d.rule().is(-1);
        });
        last("known", 507, d -> {
            d.clear().isNothing();
            d.known(0, 0).isNothing();
            d.setPattern("e");
            d.rule().is(1);
        });
        last("say", 510, d -> {
            d.clear().isNothing();
            d.say(6).is(1);
        });
        last("say, refused", 511, d -> d.say(6).refusesState());
        last("next", 509, d -> {
            d.clear().isNothing();
            d.say(0).is(1);
            d.next().is(1);
        });
        last("rule", 511, d -> d.rule().is(0));
        last("key", 501, d -> {
            d.clear().isNothing();
            d.setKey(0, 0, Model.counting(32));
            d.setPattern("e");
            d.begin(1).isNothing();
            d.write(0).is(32);
            d.at(0, 0, 0);
        });
        last("key, refused", 511, d -> d.key(0, 2).refusesState());
        last("secret", 500, d -> {
            d.clear().isNothing();
            d.fill(32);
            d.secret(0).isNothing();
            d.setPattern("e psk");
            d.begin(0).isNothing();
            d.write(0).is(48);
            d.at(0, 4, 0);
        });
        last("secret, refused", 511, d -> d.secret(0).refusesArgument());
        last("begin", 506, d -> {
            d.clear().isNothing();
            d.setPattern("e");
            d.begin(1).isNothing();
            d.at(0, 2, 0);
            d.at(1, 3, 31);
        });
        last("write", 511, d -> d.write(0).is(16));
        last("read", 511, d -> d.read(0).is(-1));
        last("read, refused", 511, d -> d.read(2).refusesArgument());
        last("deliver", 510, d -> {
            d.write(1).is(16);
            d.deliver(0).is(0);
        });
        last("alter", 510, d -> {
            d.write(1).is(16);
            d.alter(1, 15, 255);
        });
        last("number", 510, d -> {
            d.number(1, false, -1).isNothing();
            d.look(1, 6).is(-1);
        });
        last("rekey", 510, d -> {
            d.rekey(1, false).isNothing();
            d.at(1, 5, 31);
        });
        last("hash", 510, d -> {
            d.hash(1).isNothing();
            d.result(31);
        });
        last("agree", 502, d -> {
            d.fill(64);
            d.agree().isNothing();
            d.result(31);
        });
        last("result, refused", 511, d -> d.result(32).refusesElement());
        last("at", 511, d -> d.at(0, 4, 0));
        last("at, refused", 511, d -> d.at(0, 3, 0).refusesElement());
        last("look", 511, d -> d.look(0, 5).is(1));
    }

    /** The calls before are greetings, of which the last one stands split; then as many looks as are needed. */
    private static void last(String name, int before, Consumer<Both> calls) {
        LongRunsTest run = new LongRunsTest("last call: " + name);
        run.setAllOnce();
        for (int i = 0; i < 3; i++) {
            run.desk.clear().isNothing();
            run.greetOn(PATTERNS[4 - 2 * i], i & 1);
        }
        while (run.desk.calls < before) {
            run.desk.look(0, 0).is(3);
        }
        calls.accept(run.desk);
        Answer.due(run.desk.name + ": calls", Integer.toString(run.desk.calls), Integer.toString(CALLS));
    }
}
