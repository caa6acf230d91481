import java.util.function.Consumer;

/** What the tests share: it compares answers with those that are due and counts the others. */
final class Checks {
    static final String ILLEGAL_ARGUMENT = "throws.IllegalArgumentException";
    static final String ILLEGAL_STATE = "throws.IllegalStateException";
    static final String NO_SUCH_ELEMENT = "throws.NoSuchElementException";

    /** A call of the class under test. */
    interface Call {
        Object answer();
    }

    private final String name;
    private int right;
    private int wrong;

    Checks(String name) {
        this.name = name;
    }

    /** The answer of a call as a text; throws.X if it throws an X. */
    static String answerOf(Call call) {
        try {
            return String.valueOf(call.answer());
        } catch (RuntimeException e) {
            return "throws." + e.getClass().getSimpleName();
        }
    }

    void due(String what, Object want, Call call) {
        String got = answerOf(call);
        if (got.equals(String.valueOf(want))) {
            right++;
            return;
        }
        wrong++;
        System.out.println(name + ": " + what + " answered " + got + ", due is " + want);
    }

    /** The last call must throw what is named, and leave the object as the settings made it. */
    void refused(String what, String exception, Consumer<LaneTrunks> settings,
            Consumer<LaneTrunks> lastCall) {
        due(what, exception, () -> {
            LaneTrunks x = made(settings);
            lastCall.accept(x);
            return "nothing thrown";
        });
        due("the state after " + what, State.after(settings), () -> State.after(x -> {
            settings.accept(x);
            answerOf(() -> {
                lastCall.accept(x);
                return 0;
            });
        }));
    }

    static LaneTrunks made(Consumer<LaneTrunks> settings) {
        LaneTrunks x = new LaneTrunks();
        settings.accept(x);
        return x;
    }

    void close() {
        System.out.println(name + ": " + right + " answers as due, " + wrong + " not");
        if (wrong != 0 || right == 0) {
            System.exit(1);
        }
    }
}
