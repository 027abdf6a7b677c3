import java.util.ArrayList;
import java.util.List;
import java.util.function.Supplier;
import java.util.function.ToIntFunction;

/**
 * Everything that can be asked of an object, now and later, with some 330 calls. Two objects with the same tour are in
 * the same state; the tour runs hours and changes settings, so it is the last that is done with an object.
 */
final class Tour {
    private final WaterCascade x;
    private final List<String> answers = new ArrayList<>();

    private Tour(WaterCascade x) {
        this.x = x;
    }

    /** What can be asked now; it changes nothing. */
    static List<String> ofQuestions(WaterCascade x) {
        Tour tour = new Tour(x);
        tour.questions();
        return tour.answers;
    }

    static List<String> of(WaterCascade x) {
        Tour tour = new Tour(x);
        tour.questions();
        tour.ask("run(6)", river -> river.run(6));
        tour.water();
        tour.settings();
        tour.ask("run(6)", river -> river.run(6));
        tour.water();
        return tour.answers;
    }

    /** The call throws what is due, and behind it everything is as on a river that it was not called on. */
    static void refused(String call, int due, Supplier<WaterCascade> river, ToIntFunction<WaterCascade> attempt) {
        refused(call, due, river, of(river.get()), attempt);
    }

    static void refused(String call, int due, Supplier<WaterCascade> river, List<String> untouched,
            ToIntFunction<WaterCascade> attempt) {
        WaterCascade tried = river.get();
        Checks.due(call + " throws", Checks.Outcome.of(() -> attempt.applyAsInt(tried)).thrown(), due);
        List<String> behind = of(tried);
        for (int row = 0; row < untouched.size(); row++) {
            if (!behind.get(row).equals(untouched.get(row))) {
                Checks.complain("behind " + call + ": " + behind.get(row) + ", before: " + untouched.get(row));
                return;
            }
        }
    }

    private void ask(String call, ToIntFunction<WaterCascade> question) {
        answers.add(call + " " + Checks.Outcome.of(() -> question.applyAsInt(x)));
    }

    private void questions() {
        water();
        mixes();
        bestReleases();
    }

    private void water() {
        ask("hour", river -> river.hour());
        for (int plant = 0; plant < 3; plant++) {
            int p = plant;
            ask("level " + p, river -> river.level(p));
            ask("account " + p + " 0", river -> river.account(p, 0));
            ask("account " + p + " 1", river -> river.account(p, 1));
            ask("spilled " + p, river -> river.spilled(p));
            ask("missed " + p, river -> river.missed(p));
            ask("flow " + p, river -> river.flow(p));
            ask("energy " + p, river -> river.energy(p));
        }
        for (int owner = 0; owner < 2; owner++) {
            int o = owner;
            ask("cameIn " + o, river -> river.cameIn(o));
            ask("gone " + o, river -> river.gone(o));
            ask("balance " + o, river -> river.balance(o));
            underWay(1, o);
            underWay(2, o);
        }
    }

    private void underWay(int plant, int owner) {
        ask("travelling " + plant + " " + owner, river -> river.travelling(plant, owner));
        int next = x.hour();
        for (int hour = Math.max(0, next - 1); hour <= next + 6; hour++) {
            int h = hour;
            ask("arriving " + plant + " " + owner + " " + h, river -> river.arriving(plant, owner, h));
        }
    }

    private void mixes() {
        for (int plant = 0; plant < 3; plant++) {
            for (int flow = 0; flow <= 16; flow++) {
                int p = plant;
                int f = flow;
                ask("mix " + p + " " + f, river -> river.mix(p, f));
            }
        }
    }

    private void bestReleases() {
        for (int hours = 1; hours <= 6; hours++) {
            int h = hours;
            ask("bestEnergy " + h, river -> river.bestEnergy(h));
            ask("bestRelease " + h, river -> river.bestRelease(h));
        }
        ask("bestEnergyByAll 3", river -> river.bestEnergyByAll(3));
    }

    /** Each setting as its next change tells it; the new ones bring water to all plants. */
    private void settings() {
        for (int plant = 0; plant < 3; plant++) {
            int p = plant;
            ask("inflow " + p, river -> river.setInflow(p, 41, 47));
            ask("minimum " + p, river -> river.setMinimum(p, 9));
            for (int owner = 0; owner < 2; owner++) {
                int o = owner;
                ask("order " + p + " " + o, river -> river.order(p, o, 3 + o));
                for (int flow = 1; flow <= 8; flow++) {
                    int f = flow;
                    ask("yield " + p + " " + o + " " + f, river -> river.setYield(p, o, f, 7 * f));
                }
            }
        }
    }
}
