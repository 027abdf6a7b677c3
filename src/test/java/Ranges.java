import java.util.List;

/** The ends of an argument's range: each value in it is taken, those outside are refused and change nothing. */
final class Ranges {
    private Ranges() {
    }

    /** A call with one of its arguments free. */
    interface Call {
        int with(WaterCascade x, int value);
    }

    /** In every state but the full one: on a new river, in the midst of its hours, and when they are all run. */
    static void of(String call, int least, int most, Call attempt) {
        in(Rivers.NEW, call, least, most, attempt);
        in(Rivers.BUSY, call, least, most, attempt);
        in(Rivers.LATE, call, least, most, attempt);
    }

    static void in(Rivers state, String call, int least, int most, Call attempt) {
        for (int value = least; value <= most; value++) {
            taken(state, call, value, attempt);
        }
        refusedOutside(state, call, least, most, attempt);
    }

    static void refusedOutside(Rivers state, String call, int least, int most, Call attempt) {
        List<String> untouched = Tour.of(state.make());
        int[] outside = {
            least - 1, least - 2, least - 100, least - 65536, Integer.MIN_VALUE, Integer.MIN_VALUE + least,
            most + 1, most + 2, most + 100, most + 65536, least + 256 * (1 + most / 256), Integer.MAX_VALUE,
            Integer.MAX_VALUE - most,
        };
        for (int value : outside) {
            Tour.refused(told(state, call, value), Checks.Outcome.ARGUMENT, state::make, untouched,
                x -> attempt.with(x, value));
        }
    }

    private static void taken(Rivers state, String call, int value, Call attempt) {
        WaterCascade x = state.make();
        Checks.Outcome outcome = Checks.Outcome.of(() -> attempt.with(x, value));
        Checks.due(told(state, call, value) + " throws", outcome.thrown(), Checks.Outcome.NOTHING);
    }

    private static String told(Rivers state, String call, int value) {
        return call + " with " + value + " on a " + state + " river";
    }
}
