import java.util.List;
import java.util.function.ToIntFunction;

/** Which exception is thrown, the first of the throws clause where several are due; nothing has changed then. */
final class RefusalsTest {
    private static final int ARGUMENT = Checks.Outcome.ARGUMENT;
    private static final int STATE = Checks.Outcome.STATE;

    private RefusalsTest() {
    }

    public static void main(String[] args) {
        theRiversHaveSomethingToChange();
        severalWrongSettings();
        severalWrongQuestions();
        lastArgumentAloneIsWrong();
        runUpTo200();
        runBeyond200();
        runBeyond200FromEachLateHour();
        runWithBothExceptions();
        lendTheVeryAccount();
        lendMoreThanTheAccount();
        lendFromAnEmptyAccount();
        lendFromAnAccountBelow0();
        lendWithBothExceptions();
        refusedOftenInARow();
        Checks.end();
    }

    /** A refusal that changes something would be seen on the busy river and on the late one. */
    private static void theRiversHaveSomethingToChange() {
        for (Rivers state : List.of(Rivers.BUSY, Rivers.LATE)) {
            WaterCascade x = state.make();
            for (int plant = 0; plant < 3; plant++) {
                Checks.isTrue(state + ": plant " + plant + " has spilled", x.spilled(plant) > 0);
                Checks.isTrue(state + ": plant " + plant + " has made energy", x.energy(plant) > 0);
            }
            Checks.isTrue(state + ": plants have missed", x.missed(1) > 0 && x.missed(2) > 0);
            for (int owner = 0; owner < 2; owner++) {
                Checks.isTrue(state + ": to plant 1", x.travelling(1, owner) > 0);
                Checks.isTrue(state + ": to plant 2", x.travelling(2, owner) > 0);
                Checks.isTrue(state + ": gone", x.gone(owner) > 0);
            }
        }
        Checks.isTrue("an account of the busy river is below 0", Rivers.BUSY.make().account(0, 0) < 0);
        Checks.due("hour of the busy river", Rivers.BUSY.make().hour(), 12);
        Checks.due("hour of the late river", Rivers.LATE.make().hour(), 200);
        Checks.due("account of the full river", Rivers.FULL.make().account(1, 1), 100);
    }

    private static void refused(Rivers state, String call, int due, ToIntFunction<WaterCascade> attempt) {
        Tour.refused(call + " on a " + state + " river", due, state::make, attempt);
    }

    private static void severalWrongSettings() {
        for (Rivers state : Rivers.values()) {
            refused(state, "setPond(3, 0, -1, 6)", ARGUMENT, x -> Rivers.setPond(x, 3, 0, -1, 6));
            refused(state, "setPond(-1, 201, 101, -1)", ARGUMENT, x -> Rivers.setPond(x, -1, 201, 101, -1));
            refused(state, "setInflow(3, 51, 101)", ARGUMENT, x -> x.setInflow(3, 51, 101));
            refused(state, "setInflow(-1, -1, -1)", ARGUMENT, x -> x.setInflow(-1, -1, -1));
            refused(state, "setMinimum(3, 21)", ARGUMENT, x -> x.setMinimum(3, 21));
            refused(state, "setMinimum(-1, -1)", ARGUMENT, x -> x.setMinimum(-1, -1));
            refused(state, "order(3, 2, 31)", ARGUMENT, x -> x.order(3, 2, 31));
            refused(state, "order(-1, -1, -1)", ARGUMENT, x -> x.order(-1, -1, -1));
            refused(state, "setYield(3, 2, 9, 201)", ARGUMENT, x -> x.setYield(3, 2, 9, 201));
            refused(state, "setYield(-1, -1, 0, -1)", ARGUMENT, x -> x.setYield(-1, -1, 0, -1));
        }
    }

    private static void severalWrongQuestions() {
        for (Rivers state : Rivers.values()) {
            refused(state, "account(3, 2)", ARGUMENT, x -> x.account(3, 2));
            refused(state, "account(-1, -1)", ARGUMENT, x -> x.account(-1, -1));
            refused(state, "travelling(0, 2)", ARGUMENT, x -> x.travelling(0, 2));
            refused(state, "travelling(3, -1)", ARGUMENT, x -> x.travelling(3, -1));
            refused(state, "arriving(0, 2, 301)", ARGUMENT, x -> x.arriving(0, 2, 301));
            refused(state, "arriving(3, -1, -1)", ARGUMENT, x -> x.arriving(3, -1, -1));
            refused(state, "mix(3, 17)", ARGUMENT, x -> x.mix(3, 17));
            refused(state, "mix(-1, -1)", ARGUMENT, x -> x.mix(-1, -1));
        }
    }

    /** The last argument alone may be wrong, when the ones ahead of it are at an end of their ranges. */
    private static void lastArgumentAloneIsWrong() {
        refused(Rivers.BUSY, "setPond(0, 1, 0, 6)", ARGUMENT, x -> Rivers.setPond(x, 0, 1, 0, 6));
        refused(Rivers.BUSY, "setPond(2, 200, 100, -1)", ARGUMENT, x -> Rivers.setPond(x, 2, 200, 100, -1));
        refused(Rivers.BUSY, "setInflow(2, 50, 101)", ARGUMENT, x -> x.setInflow(2, 50, 101));
        refused(Rivers.BUSY, "setInflow(0, 0, -1)", ARGUMENT, x -> x.setInflow(0, 0, -1));
        refused(Rivers.BUSY, "order(2, 1, 31)", ARGUMENT, x -> x.order(2, 1, 31));
        refused(Rivers.BUSY, "order(0, 0, -1)", ARGUMENT, x -> x.order(0, 0, -1));
        refused(Rivers.BUSY, "setYield(2, 1, 8, 201)", ARGUMENT, x -> x.setYield(2, 1, 8, 201));
        refused(Rivers.BUSY, "setYield(0, 0, 1, -1)", ARGUMENT, x -> x.setYield(0, 0, 1, -1));
        refused(Rivers.BUSY, "setYield(0, 0, 0, 0): the yield for 0 stays 0", ARGUMENT, x -> x.setYield(0, 0, 0, 0));
        refused(Rivers.FULL, "lend(2, 1, 101)", ARGUMENT, x -> x.lend(2, 1, 101));
        refused(Rivers.FULL, "lend(0, 0, 0)", ARGUMENT, x -> x.lend(0, 0, 0));
    }

    private static WaterCascade atHour(int hour) {
        WaterCascade x = new WaterCascade();
        x.setInflow(0, 3, 100);
        x.setInflow(2, 1, 0);
        x.order(0, 0, 2);
        while (x.hour() < hour) {
            x.run(Math.min(24, hour - x.hour()));
        }
        return x;
    }

    private static void runUpTo200() {
        Checks.due("run(24) at 176", atHour(176).run(24), 200);
        Checks.due("run(23) at 177", atHour(177).run(23), 200);
        Checks.due("run(1) at 199", atHour(199).run(1), 200);
        Checks.due("run(2) at 198", atHour(198).run(2), 200);
        Checks.due("run(24) at 175", atHour(175).run(24), 199);
    }

    private static void runBeyond200() {
        Tour.refused("run(24) at 177", STATE, () -> atHour(177), x -> x.run(24));
        Tour.refused("run(2) at 199", STATE, () -> atHour(199), x -> x.run(2));
        Tour.refused("run(3) at 198", STATE, () -> atHour(198), x -> x.run(3));
        Tour.refused("run(1) at 200", STATE, () -> atHour(200), x -> x.run(1));
        Tour.refused("run(24) at 200", STATE, () -> atHour(200), x -> x.run(24));
        refused(Rivers.LATE, "run(1)", STATE, x -> x.run(1));
    }

    private static void runBeyond200FromEachLateHour() {
        for (int hour = 176; hour <= 200; hour++) {
            for (int hours = 1; hours <= 24; hours++) {
                WaterCascade x = atHour(hour);
                int some = hours;
                int thrown = Checks.Outcome.of(() -> x.run(some)).thrown();
                boolean fits = hour + hours <= 200;
                Checks.due("run(" + hours + ") at " + hour + " throws", thrown, fits ? 0 : STATE);
                Checks.due("the hour behind it", x.hour(), fits ? hour + hours : hour);
            }
        }
    }

    private static void runWithBothExceptions() {
        for (int hours : new int[] {25, 26, 100, 201, 65537, Integer.MAX_VALUE, Integer.MAX_VALUE - 199}) {
            Tour.refused("run(" + hours + ") at 200", ARGUMENT, () -> atHour(200), x -> x.run(hours));
            Tour.refused("run(" + hours + ") at 177", ARGUMENT, () -> atHour(177), x -> x.run(hours));
        }
        for (int hours : new int[] {0, -1, -200, Integer.MIN_VALUE}) {
            Tour.refused("run(" + hours + ") at 200", ARGUMENT, () -> atHour(200), x -> x.run(hours));
        }
    }

    private static void lendTheVeryAccount() {
        for (int plant = 0; plant < 3; plant++) {
            WaterCascade x = Rivers.withAccounts(plant, 7, 100);
            Checks.due("lend 7 of 7", x.lend(plant, 0, 7), 0);
            Checks.due("the other account", x.account(plant, 1), 107);
            WaterCascade y = Rivers.withAccounts(plant, 1, 100);
            Checks.due("lend 100 of 100", y.lend(plant, 1, 100), 0);
            Checks.due("the other account", y.account(plant, 0), 101);
            Checks.due("lend 1 of 101", y.lend(plant, 0, 1), 100);
        }
    }

    private static void lendMoreThanTheAccount() {
        for (int plant = 0; plant < 3; plant++) {
            int p = plant;
            Tour.refused("lend 8 of 7", STATE, () -> Rivers.withAccounts(p, 7, 150), x -> x.lend(p, 0, 8));
            Tour.refused("lend 100 of 99", STATE, () -> Rivers.withAccounts(p, 100, 99), x -> x.lend(p, 1, 100));
            Tour.refused("lend 100 of 7", STATE, () -> Rivers.withAccounts(p, 150, 7), x -> x.lend(p, 1, 100));
        }
        Tour.refused("lend of another plant's water", STATE, () -> Rivers.withAccounts(1, 50, 50),
            x -> x.lend(0, 0, 1));
    }

    private static void lendFromAnEmptyAccount() {
        Tour.refused("lend 1 of 0", STATE, () -> Rivers.withAccounts(0, 0, 9), x -> x.lend(0, 0, 1));
        Tour.refused("lend 1 of 0", STATE, () -> Rivers.withAccounts(2, 9, 0), x -> x.lend(2, 1, 1));
        refused(Rivers.NEW, "lend(0, 0, 1)", STATE, x -> x.lend(0, 0, 1));
        refused(Rivers.NEW, "lend(2, 1, 100)", STATE, x -> x.lend(2, 1, 100));
    }

    private static void lendFromAnAccountBelow0() {
        Tour.refused("lend 1 of -1", STATE, () -> Rivers.withAccounts(0, -1, 9), x -> x.lend(0, 0, 1));
        Tour.refused("lend 5 of -5", STATE, () -> Rivers.withAccounts(1, 9, -5), x -> x.lend(1, 1, 5));
        WaterCascade x = Rivers.withAccounts(1, 9, -5);
        Checks.due("the other one may lend to it", x.lend(1, 0, 4), 5);
        Checks.due("which makes it less below 0", x.account(1, 1), -1);
        Checks.due("up to 0", x.lend(1, 0, 1), 4);
        Checks.refusesState("lend 1 of 0", () -> x.lend(1, 1, 1));
        Checks.due("and above it", x.lend(1, 0, 1), 3);
        Checks.due("where it may lend again", x.lend(1, 1, 1), 0);
    }

    private static void lendWithBothExceptions() {
        for (Rivers state : List.of(Rivers.NEW, Rivers.BUSY, Rivers.LATE)) {
            refused(state, "lend(0, 0, 101)", ARGUMENT, x -> x.lend(0, 0, 101));
            refused(state, "lend(2, 1, 1000)", ARGUMENT, x -> x.lend(2, 1, 1000));
            refused(state, "lend(3, 0, 100)", ARGUMENT, x -> x.lend(3, 0, 100));
            refused(state, "lend(-1, 1, 100)", ARGUMENT, x -> x.lend(-1, 1, 100));
            refused(state, "lend(1, 2, 100)", ARGUMENT, x -> x.lend(1, 2, 100));
            refused(state, "lend(1, -1, 100)", ARGUMENT, x -> x.lend(1, -1, 100));
        }
        Tour.refused("lend 0 of -5", ARGUMENT, () -> Rivers.withAccounts(1, 9, -5), x -> x.lend(1, 1, 0));
        Tour.refused("lend -1 of -5", ARGUMENT, () -> Rivers.withAccounts(1, 9, -5), x -> x.lend(1, 1, -1));
        Tour.refused("lend 101 of 102", ARGUMENT, () -> Rivers.withAccounts(1, 9, 102), x -> x.lend(1, 1, 101));
    }

    /** One refusal leaves nothing behind that a later call could meet. */
    private static void refusedOftenInARow() {
        Tour.refused("many refused calls, lend(0, 0, 101) the last one", ARGUMENT, Rivers.BUSY::make, x -> {
            for (int time = 0; time < 20; time++) {
                Checks.refusesArgument("run(25)", () -> x.run(25));
                Checks.refusesState("lend(0, 0, 100)", () -> x.lend(0, 0, 100));
                Checks.refusesArgument("bestEnergy(7)", () -> x.bestEnergy(7));
                Checks.refusesArgument("setYield(0, 1, 4, 201)", () -> x.setYield(0, 1, 4, 201));
            }
            return x.lend(0, 0, 101);
        });
    }
}
