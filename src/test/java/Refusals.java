import java.util.function.Supplier;
import java.util.function.ToIntFunction;

/** Calls that are refused at the end of one and the same run: each by the answer that is due, and nothing was done. */
final class Refusals {
    static final int[] NO_REGISTERS = {-1, 16, Integer.MIN_VALUE, Integer.MAX_VALUE};
    static final int[] NO_CONTEXTS = {-1, 4, Integer.MIN_VALUE, Integer.MAX_VALUE};
    static final int[] NO_MODES = {-1, 4, Integer.MIN_VALUE, Integer.MAX_VALUE};
    static final int[] NO_KINDS = {0, 2, 4, -1, Integer.MIN_VALUE, Integer.MAX_VALUE};
    static final int[] NO_CIPHERS = {0, 4, 254, 255, 256, 65535, -1, Integer.MIN_VALUE, Integer.MAX_VALUE};
    static final int[] NO_LENGTHS = {-1, 301, Integer.MIN_VALUE, Integer.MAX_VALUE};

    /** A call in which one number is left open. */
    interface With {
        int call(KeySealer x, int number);
    }

    private final Checks checks;
    private final Supplier<Desk> run;
    private final String before;

    Refusals(Checks checks, Supplier<Desk> run) {
        this.checks = checks;
        this.run = run;
        this.before = run.get().all();
    }

    void due(String what, int want, ToIntFunction<KeySealer> call) {
        Desk desk = run.get();
        checks.due(what, desk.call(call), want);
        checks.due("what is there after " + what, desk.all(), before);
    }

    void bad(String what, ToIntFunction<KeySealer> call) {
        due(what, KeySealer.BAD, call);
    }

    void each(String what, int want, int[] numbers, With call) {
        for (int number : numbers) {
            due(what + " " + number, want, x -> call.call(x, number));
        }
    }

    void bad(String what, int[] numbers, With call) {
        each(what, KeySealer.BAD, numbers, call);
    }
}
