import java.util.ArrayList;
import java.util.List;
import java.util.function.Consumer;
import java.util.function.ToLongFunction;

/**
 * A new PatternGreeter and a new Model that get the same calls: each answer of the one must be that of
 * the other. It counts the calls, since the document lets an object have 512, and keeps them, so that a
 * test that says that a call is refused also finds out whether that changed something.
 */
final class Both {
    final PatternGreeter desk = new PatternGreeter();
    final Model model = new Model();
    final String name;
    int calls;
    /** The calls that were not refused and do more than look. */
    private final List<Consumer<PatternGreeter>> changes = new ArrayList<>();

    Both(String name) {
        this.name = name;
    }

    private Answer same(Answer got, Answer want, Consumer<PatternGreeter> call) {
        calls++;
        if (calls > Twin.MOST_CALLS) {
            throw new AssertionError(name + ": a test may not use an object for more than 512 calls");
        }
        Answer.due(name + ", call " + calls + ": " + got.call + " (against the model)", got.text, want.text);
        if (got.text.startsWith("throws.")) {
            List<Consumer<PatternGreeter>> before = List.copyOf(changes);
            got.whenRefused(() -> Twin.unchanged(got.call, before, call));
        }
        return got;
    }

    private Answer seen(String call, ToLongFunction<PatternGreeter> onDesk, Answer.Call onModel) {
        String full = name + ": " + call;
        return same(Answer.of(full, () -> onDesk.applyAsLong(desk)), Answer.of(full, onModel), onDesk::applyAsLong);
    }

    private Answer value(String call, ToLongFunction<PatternGreeter> onDesk, Answer.Call onModel) {
        return keep(seen(call, onDesk, onModel), onDesk::applyAsLong);
    }

    private Answer nothing(String call, Consumer<PatternGreeter> onDesk, Runnable onModel) {
        String full = name + ": " + call;
        Answer got = Answer.ofNothing(full, () -> onDesk.accept(desk));
        return keep(same(got, Answer.ofNothing(full, onModel), onDesk), onDesk);
    }

    private Answer keep(Answer got, Consumer<PatternGreeter> call) {
        if (!got.text.startsWith("throws.")) {
            changes.add(call);
        }
        return got;
    }

    Answer feed(int n, long v) {
        return value("feed(" + n + ", " + v + ")", d -> d.feed(n, v), () -> model.feed(n, v));
    }

    Answer wipe() {
        return value("wipe()", PatternGreeter::wipe, model::wipe);
    }

    Answer clear() {
        return nothing("clear()", PatternGreeter::clear, model::clear);
    }

    Answer known(int party, int which) {
        return nothing("known(" + party + ", " + which + ")",
            d -> d.known(party, which), () -> model.known(party, which));
    }

    Answer say(int token) {
        return value("say(" + token + ")", d -> d.say(token), () -> model.say(token));
    }

    Answer next() {
        return value("next()", PatternGreeter::next, model::next);
    }

    Answer rule() {
        return seen("rule()", PatternGreeter::rule, model::rule);
    }

    Answer key(int party, int which) {
        return nothing("key(" + party + ", " + which + ")",
            d -> d.key(party, which), () -> model.key(party, which));
    }

    Answer secret(int k) {
        return nothing("secret(" + k + ")", d -> d.secret(k), () -> model.secret(k));
    }

    Answer begin(int hash) {
        return nothing("begin(" + hash + ")", d -> d.begin(hash), () -> model.begin(hash));
    }

    Answer write(int party) {
        return value("write(" + party + ")", d -> d.write(party), () -> model.write(party));
    }

    Answer read(int party) {
        return value("read(" + party + ")", d -> d.read(party), () -> model.read(party));
    }

    Answer deliver(int party) {
        return value("deliver(" + party + ")", d -> d.deliver(party), () -> model.deliver(party));
    }

    Answer alter(int party, int i, int mask) {
        return value("alter(" + party + ", " + i + ", " + mask + ")",
            d -> d.alter(party, i, mask), () -> model.alter(party, i, mask));
    }

    Answer number(int party, boolean sends, long v) {
        return nothing("number(" + party + ", " + sends + ", " + v + ")",
            d -> d.number(party, sends, v), () -> model.number(party, sends, v));
    }

    Answer rekey(int party, boolean sends) {
        return nothing("rekey(" + party + ", " + sends + ")",
            d -> d.rekey(party, sends), () -> model.rekey(party, sends));
    }

    Answer hash(int hash) {
        return nothing("hash(" + hash + ")", d -> d.hash(hash), () -> model.hash(hash));
    }

    Answer agree() {
        return nothing("agree()", PatternGreeter::agree, model::agree);
    }

    Answer result(int k) {
        return seen("result(" + k + ")", d -> d.result(k), () -> model.result(k));
    }

    Answer at(int party, int what, int k) {
        return seen("at(" + party + ", " + what + ", " + k + ")",
            d -> d.at(party, what, k), () -> model.at(party, what, k));
    }

    Answer look(int party, int what) {
        return seen("look(" + party + ", " + what + ")",
            d -> d.look(party, what), () -> model.look(party, what));
    }

    // ---- several calls at once

    void feedAll(byte[] row) {
        for (int i = 0; i < row.length; i += 8) {
            int n = Math.min(8, row.length - i);
            long v = 0;
            for (int j = 0; j < n; j++) {
                v |= (row[i + j] & 255L) << 8 * j;
            }
            feed(n, v);
        }
    }

    void setKey(int party, int which, byte[] row) {
        feedAll(row);
        key(party, which).isNothing();
    }

    /** Messages as in "e / e ee s es / s se", with known keys in front: "s0 s1 : e es ss / e ee se". */
    void setPattern(String text) {
        String messages = text;
        if (text.contains(":")) {
            for (String one : text.substring(0, text.indexOf(':')).trim().split(" ")) {
                known(one.charAt(1) - '0', one.charAt(0) == 'e' ? 0 : 1);
            }
            messages = text.substring(text.indexOf(':') + 1);
        }
        for (String message : messages.split("/")) {
            for (String token : message.trim().split(" ")) {
                say(List.of("e", "s", "ee", "es", "se", "ss", "psk").indexOf(token));
            }
            next();
        }
    }

    /** Private keys that differ from one another. */
    void setKeys() {
        for (int party = 0; party < 2; party++) {
            for (int which = 0; which < 2; which++) {
                setKey(party, which, Model.digest(Model.bytes(party, which)));
            }
        }
    }

    /** Begins with keys that differ, and lets the first messages be written and delivered. */
    void greet(String pattern, int hash, int firstMessages) {
        setKeys();
        setPattern(pattern);
        begin(hash).isNothing();
        for (int m = 0; m < firstMessages; m++) {
            write(m % 2);
            deliver(1 - m % 2).is(0);
        }
    }

    /** Both parties are split behind it. */
    void greetWhole(String pattern, int hash) {
        greet(pattern, hash, pattern.split("/").length);
        look(0, 0).is(3);
        look(1, 0).is(3);
    }

    /** Bytes that differ from one another, as many as said. */
    void fill(int size) {
        feedAll(Model.counting(size));
    }

    Both another() {
        return new Both(name);
    }

    /** All that look tells of a party. */
    void lookAll(int party) {
        for (int what = 0; what < 8; what++) {
            look(party, what);
        }
    }

    /** The first, the last and a middle byte of each row, and those next to its ends. */
    void seeSome(int party) {
        for (int what = 0; what < 6; what++) {
            for (int k : new int[] {-1, 0, 17, 31, 32}) {
                at(party, what, k);
            }
        }
    }

    void resultIs(String hex) {
        for (int k = 0; k < 32; k++) {
            result(k).is(Integer.parseInt(hex.substring(2 * k, 2 * k + 2), 16));
        }
    }
}
