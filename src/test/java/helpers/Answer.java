/** What a call answered, as a text: a number, "nothing", or throws. and the exception's own name. */
final class Answer {
    interface Call {
        long run();
    }

    private static int wrong = 0;
    private static int asked = 0;

    final String call;
    final String text;
    private Runnable whenRefused = () -> { };

    private Answer(String call, String text) {
        this.call = call;
        this.text = text;
    }

    /** What is looked at besides when a test says that the call is refused. */
    Answer whenRefused(Runnable look) {
        whenRefused = look;
        return this;
    }

    static Answer of(String call, Call made) {
        try {
            return new Answer(call, Long.toString(made.run()));
        } catch (RuntimeException e) {
            return new Answer(call, "throws." + e.getClass().getSimpleName());
        }
    }

    static Answer ofNothing(String call, Runnable made) {
        Answer answer = of(call, () -> {
            made.run();
            return 0;
        });
        return new Answer(call, answer.text.equals("0") ? "nothing" : answer.text);
    }

    static void due(String what, String got, String want) {
        asked++;
        if (!got.equals(want)) {
            wrong++;
            if (wrong <= 50) {
                System.out.println(what + " answered " + got + ", due is " + want);
            }
        }
    }

    static int asked() {
        return asked;
    }

    Answer is(long want) {
        due(call, text, Long.toString(want));
        return this;
    }

    Answer isNothing() {
        due(call, text, "nothing");
        return this;
    }

    private Answer refuses(String exception) {
        due(call, text, "throws." + exception);
        whenRefused.run();
        return this;
    }

    Answer refusesArgument() {
        return refuses("IllegalArgumentException");
    }

    Answer refusesState() {
        return refuses("IllegalStateException");
    }

    Answer refusesElement() {
        return refuses("NoSuchElementException");
    }

    /** Every test's main ends with it. */
    static void end() {
        System.out.println(wrong + " wrong of " + asked + " answers");
        System.exit(wrong == 0 && asked > 0 ? 0 : 1);
    }
}
