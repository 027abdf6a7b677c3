import java.util.function.IntSupplier;

/** What the tests share: they compare answers here, and end by what was wrong. */
final class Checks {
    private static int wrong = 0;

    private Checks() {
    }

    static void due(String call, long got, long want) {
        if (got != want) {
            complain(call + " answered " + got + ", due is " + want);
        }
    }

    static void dueBest(WaterCascade x, int hours, int energy, int release) {
        // questions for other hours come between, as no answer may lean on what was asked before
        x.bestEnergy(hours % 6 + 1);
        due("bestRelease(" + hours + ")", x.bestRelease(hours), release);
        x.bestRelease((hours + 1) % 6 + 1);
        due("bestEnergy(" + hours + ")", x.bestEnergy(hours), energy);
        due("bestEnergyByAll(" + hours + ")", x.bestEnergyByAll(hours), energy);
    }

    static void isTrue(String what, boolean holds) {
        if (!holds) {
            complain(what + " does not hold");
        }
    }

    static void refusesArgument(String call, IntSupplier attempt) {
        due(call + " throws", Outcome.of(attempt).thrown(), Outcome.ARGUMENT);
    }

    static void refusesState(String call, IntSupplier attempt) {
        due(call + " throws", Outcome.of(attempt).thrown(), Outcome.STATE);
    }

    static void complain(String text) {
        wrong++;
        if (wrong <= 50) {
            System.out.println(text);
        }
    }

    static void end() {
        if (wrong != 0) {
            System.out.println(wrong + " wrong");
            System.exit(1);
        }
    }

    /** What a call did: its answer, or the kind of exception it threw. */
    record Outcome(int thrown, int answer) {
        static final int NOTHING = 0;
        static final int ARGUMENT = 1;
        static final int STATE = 2;
        static final int OTHER = 3;

        static Outcome of(IntSupplier attempt) {
            try {
                return new Outcome(NOTHING, attempt.getAsInt());
            } catch (RuntimeException e) {
                if (e.getClass() == IllegalArgumentException.class) {
                    return new Outcome(ARGUMENT, 0);
                }
                return new Outcome(e.getClass() == IllegalStateException.class ? STATE : OTHER, 0);
            }
        }
    }
}
