import java.util.ArrayList;
import java.util.List;
import java.util.function.Consumer;
import java.util.function.ToLongFunction;

/**
 * "A call that throws changes nothing": two new objects get the same calls, but only one of them the
 * refused call, too; then both are asked the same, and must answer the same. Since asking uses up what
 * it asks for, each kind of question has twins of its own.
 */
final class Twin {
    static final int MOST_CALLS = 512;

    private static final List<Consumer<Twin>> QUESTIONS = List.of(
        Twin::askFigures, twin -> twin.askRows(0), twin -> twin.askRows(1), Twin::askTape,
        Twin::askOpenMessage, Twin::askNextMessage, Twin::askMessages, Twin::askKeys);

    private final PatternGreeter desk = new PatternGreeter();
    private final List<Answer> answers = new ArrayList<>();
    private int calls;

    static void unchanged(String name, List<Consumer<PatternGreeter>> before, Consumer<PatternGreeter> refused) {
        for (Consumer<Twin> question : QUESTIONS) {
            Twin without = new Twin();
            Twin with = new Twin();
            for (Consumer<PatternGreeter> call : before) {
                without.order("", call);
                with.order("", call);
            }
            int from = without.answers.size();
            with.order("", refused);
            question.accept(without);
            question.accept(with);
            for (int i = from; i < without.answers.size(); i++) {
                Answer due = without.answers.get(i);
                Answer.due(name + ", behind which " + due.call, with.answers.get(i + 1).text, due.text);
            }
        }
    }

    private void tell(Answer answer) {
        calls++;
        if (calls > MOST_CALLS) {
            throw new AssertionError("a twin may not be used for more than 512 calls");
        }
        answers.add(answer);
    }

    private void ask(String call, ToLongFunction<PatternGreeter> made) {
        tell(Answer.of(call, () -> made.applyAsLong(desk)));
    }

    private void order(String call, Consumer<PatternGreeter> made) {
        tell(Answer.ofNothing(call, () -> made.accept(desk)));
    }

    private void askFigures() {
        ask("rule()", PatternGreeter::rule);
        for (int what = 0; what < 8; what++) {
            askLook(0, what);
            askLook(1, what);
        }
        askResult();
    }

    private void askLook(int party, int what) {
        ask("look(" + party + ", " + what + ")", d -> d.look(party, what));
    }

    private void askResult() {
        for (int i = 0; i < 32; i++) {
            int k = i;
            ask("result(" + k + ")", d -> d.result(k));
        }
    }

    private void askRow(int party, int what, int from, int step, int count) {
        for (int i = 0; i < count; i++) {
            int k = from + i * step;
            ask("at(" + party + ", " + what + ", " + k + ")", d -> d.at(party, what, k));
        }
    }

    /** Of OUT and IN the last bytes. */
    private void askRows(int party) {
        for (int what = 0; what < 2; what++) {
            askRow(party, what, (int) desk.look(party, 1 + what) - 7, 1, 8);
        }
        for (int what = 2; what < 6; what++) {
            askRow(party, what, 0, 1, 32);
        }
    }

    private void askTape() {
        order("hash(0)", d -> d.hash(0));
        askResult();
    }

    private void askOpenMessage() {
        for (int token : new int[] {6, 6, 6, 6, 6, 2, 0, 0, 0, 0, 0}) {
            ask("say(" + token + ")", d -> d.say(token));
        }
        ask("next()", PatternGreeter::next);
        ask("rule()", PatternGreeter::rule);
    }

    private void askNextMessage() {
        ask("next()", PatternGreeter::next);
        ask("rule()", PatternGreeter::rule);
        askOpenMessage();
    }

    /** The pattern shows in the h that both begin with, all bytes of an OUT in the h of its reader. */
    private void askMessages() {
        if (desk.look(0, 0) == 0) {
            order("begin(1)", d -> d.begin(1));
        }
        askWriting(1);
        for (int i = 0; i < 9; i++) {
            askWriting(i % 2);
        }
    }

    private void askWriting(int party) {
        askRow(0, 2, 0, 20, 2);
        askRow(1, 2, 0, 20, 2);
        ask("deliver(" + (1 - party) + ")", d -> d.deliver(1 - party));
        ask("write(" + party + ")", d -> d.write(party));
        ask("deliver(" + (1 - party) + ")", d -> d.deliver(1 - party));
    }

    /** The preludes show in h; without them, every key and secret is used by a pattern that has them all. */
    private void askKeys() {
        beginAnew();
        askRow(0, 2, 0, 4, 8);
        askRow(1, 2, 0, 4, 8);
        order("clear()", PatternGreeter::clear);
        order("key(0, 2)", d -> d.key(0, 2));
        order("key(1, 2)", d -> d.key(1, 2));
        beginAnew();
        for (int m = 0; m < 3; m++) {
            int party = m % 2;
            ask("write(" + party + ")", d -> d.write(party));
            askRow(party, 0, 0, 8, 8);
            ask("deliver(" + (1 - party) + ")", d -> d.deliver(1 - party));
        }
        askRow(0, 4, 0, 4, 8);
        askRow(1, 4, 0, 4, 8);
    }

    private void beginAnew() {
        order("clear()", PatternGreeter::clear);
        ask("wipe()", PatternGreeter::wipe);
        for (int token : new int[] {0, 1, -1, 0, 1, 2, 3, 4, 5, -1, 6, 6, 6, 6, -1}) {
            ask("say(" + token + "), or next()", d -> token < 0 ? d.next() : d.say(token));
        }
        order("begin(0)", d -> d.begin(0));
    }
}
