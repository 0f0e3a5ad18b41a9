import java.util.function.Consumer;

/** A boundary case that the document names: the test of it bears the document's own words as its name. */
final class Edge {
    /** Wrong for what has but 0 and 1. */
    static final int[] NOT_0_1 = {-1, 2, Integer.MIN_VALUE, Integer.MAX_VALUE};

    private Edge() {
    }

    static void of(String where, String words, Consumer<Both> test) {
        String name = where + ", \"" + words + "\"";
        int before = Answer.asked();
        test.accept(new Both(name));
        Answer.due(name + ": whether it asks anything", Boolean.toString(Answer.asked() > before), "true");
    }

    /** Begun, amidst the messages with a key and a psk done, split, and with a party that has failed. */
    static void inEachBegunState(Both d, Consumer<Both> test) {
        for (int messages = 0; messages <= 2; messages++) {
            Both begun = d.another();
            begun.greet("e psk / e ee psk", 0, messages);
            test.accept(begun);
        }
        Both failed = d.another();
        failed.greet("e psk / e ee psk", 0, 0);
        failed.read(1).is(-1);
        test.accept(failed);
    }
}
