import java.util.List;

/**
 * A new PatternGreeter and a new Model that get the same calls: each answer of the one must be that of
 * the other. It counts the calls, since the document lets an object have 512.
 */
final class Both {
    final PatternGreeter desk = new PatternGreeter();
    final Model model = new Model();
    final String name;
    int calls;

    Both(String name) {
        this.name = name;
    }

    private Answer same(Answer got, Answer want) {
        calls++;
        if (calls > 512) {
            throw new AssertionError(name + ": a test may not use an object for more than 512 calls");
        }
        Answer.due(name + ", call " + calls + ": " + got.call + " (against the model)", got.text, want.text);
        return got;
    }

    private Answer value(String call, Answer.Call onDesk, Answer.Call onModel) {
        String full = name + ": " + call;
        return same(Answer.of(full, onDesk), Answer.of(full, onModel));
    }

    private Answer nothing(String call, Runnable onDesk, Runnable onModel) {
        String full = name + ": " + call;
        return same(Answer.ofNothing(full, onDesk), Answer.ofNothing(full, onModel));
    }

    Answer feed(int n, long v) {
        return value("feed(" + n + ", " + v + ")", () -> desk.feed(n, v), () -> model.feed(n, v));
    }

    Answer wipe() {
        return value("wipe()", desk::wipe, model::wipe);
    }

    Answer clear() {
        return nothing("clear()", desk::clear, model::clear);
    }

    Answer known(int party, int which) {
        return nothing("known(" + party + ", " + which + ")",
            () -> desk.known(party, which), () -> model.known(party, which));
    }

    Answer say(int token) {
        return value("say(" + token + ")", () -> desk.say(token), () -> model.say(token));
    }

    Answer next() {
        return value("next()", desk::next, model::next);
    }

    Answer rule() {
        return value("rule()", desk::rule, model::rule);
    }

    Answer key(int party, int which) {
        return nothing("key(" + party + ", " + which + ")",
            () -> desk.key(party, which), () -> model.key(party, which));
    }

    Answer secret(int k) {
        return nothing("secret(" + k + ")", () -> desk.secret(k), () -> model.secret(k));
    }

    Answer begin(int hash) {
        return nothing("begin(" + hash + ")", () -> desk.begin(hash), () -> model.begin(hash));
    }

    Answer write(int party) {
        return value("write(" + party + ")", () -> desk.write(party), () -> model.write(party));
    }

    Answer read(int party) {
        return value("read(" + party + ")", () -> desk.read(party), () -> model.read(party));
    }

    Answer deliver(int party) {
        return value("deliver(" + party + ")", () -> desk.deliver(party), () -> model.deliver(party));
    }

    Answer alter(int party, int i, int mask) {
        return value("alter(" + party + ", " + i + ", " + mask + ")",
            () -> desk.alter(party, i, mask), () -> model.alter(party, i, mask));
    }

    Answer number(int party, boolean sends, long v) {
        return nothing("number(" + party + ", " + sends + ", " + v + ")",
            () -> desk.number(party, sends, v), () -> model.number(party, sends, v));
    }

    Answer rekey(int party, boolean sends) {
        return nothing("rekey(" + party + ", " + sends + ")",
            () -> desk.rekey(party, sends), () -> model.rekey(party, sends));
    }

    Answer hash(int hash) {
        return nothing("hash(" + hash + ")", () -> desk.hash(hash), () -> model.hash(hash));
    }

    Answer agree() {
        return nothing("agree()", desk::agree, model::agree);
    }

    Answer result(int k) {
        return value("result(" + k + ")", () -> desk.result(k), () -> model.result(k));
    }

    Answer at(int party, int what, int k) {
        return value("at(" + party + ", " + what + ", " + k + ")",
            () -> desk.at(party, what, k), () -> model.at(party, what, k));
    }

    Answer look(int party, int what) {
        return value("look(" + party + ", " + what + ")",
            () -> desk.look(party, what), () -> model.look(party, what));
    }

    // ---- several calls at once

    void feedAll(byte[] row) {
        for (int i = 0; i < row.length; i += 8) {
            int n = Math.min(8, row.length - i);
            long v = 0;
            for (int j = 0; j < n; j++) {
                v |= (row[i + j] & 255L) << 8 * j;
            }
            feed(n, v);
        }
    }

    void setKey(int party, int which, byte[] row) {
        feedAll(row);
        key(party, which).isNothing();
    }

    /** Messages as in "e / e ee s es / s se", with known keys in front: "s0 s1 : e es ss / e ee se". */
    void setPattern(String text) {
        String messages = text;
        if (text.contains(":")) {
            for (String one : text.substring(0, text.indexOf(':')).trim().split(" ")) {
                known(one.charAt(1) - '0', one.charAt(0) == 'e' ? 0 : 1);
            }
            messages = text.substring(text.indexOf(':') + 1);
        }
        for (String message : messages.split("/")) {
            for (String token : message.trim().split(" ")) {
                say(List.of("e", "s", "ee", "es", "se", "ss", "psk").indexOf(token));
            }
            next();
        }
    }

    /** Private keys that differ from one another. */
    void setKeys() {
        for (int party = 0; party < 2; party++) {
            for (int which = 0; which < 2; which++) {
                setKey(party, which, Model.digest(Model.bytes(party, which)));
            }
        }
    }

    /** All that look tells of a party. */
    void lookAll(int party) {
        for (int what = 0; what < 8; what++) {
            look(party, what);
        }
    }

    /** The first, the last and a middle byte of each row, and those next to its ends. */
    void seeSome(int party) {
        for (int what = 0; what < 6; what++) {
            for (int k : new int[] {-1, 0, 17, 31, 32}) {
                at(party, what, k);
            }
        }
    }

    void resultIs(String hex) {
        for (int k = 0; k < 32; k++) {
            result(k).is(Integer.parseInt(hex.substring(2 * k, 2 * k + 2), 16));
        }
    }
}
