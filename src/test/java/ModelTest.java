import java.util.ArrayList;
import java.util.Arrays;
import java.util.List;
import java.util.function.IntSupplier;

/**
 * All promises together: long runs of calls, right and wrong ones, answered by the class as by a model that is
 * written anew from the document, with water moved unit by unit and parcels that travel.
 */
final class ModelTest {
    private static final int RUNS = 4000;
    /** What later calls answer is free. */
    private static final int MOST_CALLS = 512;
    private static final int CALLS_OF_ONE_STEP = 5;
    private static final int CALLS_OF_ALL = 64;
    private static long seed = 20261119;
    /** The calls of the object of this run. */
    private static int asked;

    private ModelTest() {
    }

    public static void main(String[] args) {
        for (int run = 0; run < RUNS; run++) {
            oneRun("run " + run + " call ");
        }
        Checks.end();
    }

    private static int pick(int least, int most) {
        seed = seed * 6364136223846793005L + 1442695040888963407L;
        return least + (int) ((seed >>> 33) % (most - least + 1));
    }

    /** A number of the range, often at its edges, and now and then beyond them. */
    private static int near(int least, int most) {
        switch (pick(0, 39)) {
            case 0: return least - 1;
            case 1: return most + 1;
            case 2: return pick(0, 1) == 0 ? Integer.MIN_VALUE : Integer.MAX_VALUE;
            case 3: case 4: case 5: return least;
            case 6: case 7: case 8: return most;
            default: return pick(least, most);
        }
    }

    private static void oneRun(String name) {
        WaterCascade x = new WaterCascade();
        Model m = new Model();
        int longest = pick(0, 2) == 0 ? 24 : 2;
        asked = 0;
        while (asked + CALLS_OF_ONE_STEP + CALLS_OF_ALL <= MOST_CALLS) {
            oneStep(name + asked + " ", x, m, longest);
            if (pick(0, 24) == 0 && asked + CALLS_OF_ALL <= MOST_CALLS) {
                compareAll(name + asked + " ", x, m);
            }
        }
        if (asked + CALLS_OF_ALL <= MOST_CALLS) {
            compareAll(name + asked + " ", x, m);
        }
        Checks.isTrue(name + asked + " is one of " + MOST_CALLS, asked <= MOST_CALLS);
    }

    private static void oneStep(String name, WaterCascade x, Model m, int longest) {
        switch (pick(0, 11)) {
            case 0: case 1: case 2: case 3: case 4:
                oneSetting(name, x, m);
                break;
            case 5: case 6: case 7: {
                int hours = near(1, longest);
                compare(name + "run", () -> x.run(hours), () -> m.run(hours));
                break;
            }
            case 8: {
                int plant = near(0, 2);
                int owner = near(0, 1);
                int amount = near(1, 100);
                compare(name + "lend", () -> x.lend(plant, owner, amount), () -> m.lend(plant, owner, amount));
                break;
            }
            case 9:
                oneBest(name, x, m);
                break;
            default:
                someQuestions(name, x, m);
        }
    }

    private static void oneSetting(String name, WaterCascade x, Model m) {
        int a = near(0, 2);
        int b = near(0, 1);
        switch (pick(0, 4)) {
            case 0: {
                int c = near(1, 200);
                int d = near(0, 100);
                int e = near(0, 5);
                compare(name + "setPond", () -> nothing(() -> x.setPond(a, c, d, e)),
                    () -> nothing(() -> m.setPond(a, c, d, e)));
                break;
            }
            case 1: {
                int c = near(0, 50);
                int d = near(0, 100);
                compare(name + "setInflow", () -> x.setInflow(a, c, d), () -> m.setInflow(a, c, d));
                break;
            }
            case 2: {
                int c = near(0, 20);
                compare(name + "setMinimum", () -> x.setMinimum(a, c), () -> m.setMinimum(a, c));
                break;
            }
            case 3: {
                int c = near(0, 30);
                compare(name + "order", () -> x.order(a, b, c), () -> m.order(a, b, c));
                break;
            }
            default: {
                int c = near(1, 8);
                int d = near(0, 200);
                compare(name + "setYield", () -> x.setYield(a, b, c, d), () -> m.setYield(a, b, c, d));
            }
        }
    }

    private static void oneBest(String name, WaterCascade x, Model m) {
        // the model tries all, so that six hours are dear
        int a = near(1, pick(0, 9) == 0 ? 6 : 4);
        int b = near(1, 4);
        int c = near(1, 4);
        compare(name + "bestEnergy", () -> x.bestEnergy(a), () -> m.best(a)[0]);
        compare(name + "bestRelease", () -> x.bestRelease(b), () -> m.best(b)[1]);
        compare(name + "bestEnergyByAll", () -> x.bestEnergyByAll(c), () -> m.best(c)[0]);
    }

    private static void someQuestions(String name, WaterCascade x, Model m) {
        int a = near(0, 2);
        int b = near(0, 1);
        int c = near(0, 300);
        int d = near(0, 16);
        compare(name + "arriving", () -> x.arriving(a, b, c), () -> m.arriving(a, b, c));
        compare(name + "account", () -> x.account(a, b), () -> m.account(a, b));
        compare(name + "travelling", () -> x.travelling(a, b), () -> m.travelling(a, b));
        compare(name + "balance", () -> x.balance(b), () -> m.balance(b));
        compare(name + "mix", () -> x.mix(a, d), () -> m.mix(a, d));
    }

    private static int nothing(Runnable call) {
        call.run();
        return 0;
    }

    private static void compare(String call, IntSupplier got, IntSupplier want) {
        asked++;
        Checks.Outcome answered = Checks.Outcome.of(got);
        Checks.Outcome due = Checks.Outcome.of(want);
        if (!answered.equals(due)) {
            Checks.complain(call + ": " + answered + ", due is " + due);
        }
    }

    private static void same(String call, int got, int want) {
        asked++;
        Checks.due(call, got, want);
    }

    private static void compareAll(String name, WaterCascade x, Model m) {
        same(name + "hour", x.hour(), m.hour);
        for (int plant = 0; plant < 3; plant++) {
            same(name + "level " + plant, x.level(plant), m.level(plant));
            Checks.isTrue(name + "the level is not below 0", m.level(plant) >= 0);
            same(name + "spilled " + plant, x.spilled(plant), m.spilled[plant]);
            same(name + "missed " + plant, x.missed(plant), m.missed[plant]);
            same(name + "flow " + plant, x.flow(plant), m.flow[plant]);
            same(name + "energy " + plant, x.energy(plant), m.energy[plant]);
            for (int owner = 0; owner < 2; owner++) {
                same(name + "account " + plant + owner, x.account(plant, owner), m.account(plant, owner));
            }
        }
        for (int owner = 0; owner < 2; owner++) {
            same(name + "cameIn " + owner, x.cameIn(owner), m.cameIn[owner]);
            same(name + "gone " + owner, x.gone(owner), m.gone[owner]);
            same(name + "balance " + owner, x.balance(owner), m.balance(owner));
            for (int plant = 1; plant < 3; plant++) {
                same(name + "travelling", x.travelling(plant, owner), m.travelling(plant, owner));
                for (int hour = Math.max(0, m.hour - 1); hour <= m.hour + 6; hour++) {
                    same(name + "arriving", x.arriving(plant, owner, hour), m.arriving(plant, owner, hour));
                }
            }
        }
    }

    private record Parcel(int plant, int owner, int hour, int amount) {
    }

    /** The document in its own words, with no thought of speed. */
    private static final class Model {
        final int[] capacity = {100, 100, 100};
        final int[] base = {10, 10, 10};
        final int[] travel = {1, 1, 1};
        final int[] minimum = new int[3];
        final int[] inflow = new int[3];
        final int[] share = {50, 50, 50};
        final int[][] order = new int[3][2];
        final int[][] account = new int[3][2];
        final int[][][] yield = new int[3][2][9];
        final List<Parcel> parcels = new ArrayList<>();
        final int[] cameIn = new int[2];
        final int[] gone = new int[2];
        final int[] lent = new int[2];
        final int[] spilled = new int[3];
        final int[] missed = new int[3];
        final int[] flow = new int[3];
        final int[] energy = new int[3];
        int hour;

        Model() {
            for (int[][] plant : yield) {
                for (int[] turbine : plant) {
                    Arrays.setAll(turbine, f -> 10 * f);
                }
            }
        }

        static void need(boolean holds) {
            if (!holds) {
                throw new IllegalArgumentException();
            }
        }

        static boolean within(int value, int least, int most) {
            return least <= value && value <= most;
        }

        static void plantAndOwner(int leastPlant, int plant, int owner) {
            need(within(plant, leastPlant, 2) && within(owner, 0, 1));
        }

        void setPond(int plant, int newCapacity, int newBase, int newTravel) {
            need(within(plant, 0, 2) && within(newCapacity, 1, 200));
            need(within(newBase, 0, 100) && within(newTravel, 0, 5));
            capacity[plant] = newCapacity;
            base[plant] = newBase;
            travel[plant] = newTravel;
        }

        int setInflow(int plant, int newInflow, int newShare) {
            need(within(plant, 0, 2) && within(newInflow, 0, 50) && within(newShare, 0, 100));
            int before = inflow[plant];
            inflow[plant] = newInflow;
            share[plant] = newShare;
            return before;
        }

        int setMinimum(int plant, int newMinimum) {
            need(within(plant, 0, 2) && within(newMinimum, 0, 20));
            int before = minimum[plant];
            minimum[plant] = newMinimum;
            return before;
        }

        int order(int plant, int owner, int newOrder) {
            plantAndOwner(0, plant, owner);
            need(within(newOrder, 0, 30));
            int before = order[plant][owner];
            order[plant][owner] = newOrder;
            return before;
        }

        int setYield(int plant, int turbine, int ofFlow, int power) {
            plantAndOwner(0, plant, turbine);
            need(within(ofFlow, 1, 8) && within(power, 0, 200));
            int before = yield[plant][turbine][ofFlow];
            yield[plant][turbine][ofFlow] = power;
            return before;
        }

        int mix(int plant, int most) {
            need(within(plant, 0, 2) && within(most, 0, 16));
            int best = 0;
            for (int f = 0; f <= 8; f++) {
                for (int g = 0; g <= 8 && f + g <= most; g++) {
                    best = Math.max(best, yield[plant][0][f] + yield[plant][1][g]);
                }
            }
            return best;
        }

        int run(int hours) {
            need(within(hours, 1, 24));
            if (hour + hours > 200) {
                throw new IllegalStateException();
            }
            for (int k = 0; k < hours; k++) {
                for (int plant = 0; plant < 3; plant++) {
                    runPlant(plant);
                }
                hour++;
            }
            return hour;
        }

        private void runPlant(int plant) {
            int[] own = account[plant];
            for (Parcel parcel : parcels) {
                if (parcel.plant() == plant && parcel.hour() == hour) {
                    own[parcel.owner()] += parcel.amount();
                }
            }
            parcels.removeIf(parcel -> parcel.plant() == plant && parcel.hour() == hour);
            int first = (int) Math.floor(inflow[plant] * share[plant] / 100.0);
            own[0] += first;
            own[1] += inflow[plant] - first;
            cameIn[0] += first;
            cameIn[1] += inflow[plant] - first;
            int level = own[0] + own[1];
            int[] part = parts(plant, level);
            if (part[0] + part[1] < minimum[plant]) {
                missed[plant]++;
            }
            flow[plant] = Math.min(16, part[0] + part[1]);
            energy[plant] += mix(plant, flow[plant]) * (base[plant] + level / 5) / 10;
            for (int owner = 0; owner < 2; owner++) {
                own[owner] -= part[owner];
                leave(plant, owner, part[owner]);
            }
            if (own[0] + own[1] > capacity[plant]) {
                int owner = own[1] > own[0] ? 1 : 0;
                int spill = own[0] + own[1] - capacity[plant];
                own[owner] -= spill;
                spilled[plant] += spill;
                leave(plant, owner, spill);
            }
        }

        private int[] parts(int plant, int level) {
            int[] own = account[plant];
            int[] part = order[plant].clone();
            while (part[0] + part[1] < minimum[plant]) {
                part[own[1] > own[0] ? 1 : 0]++;
            }
            int cutFirst = own[1] - part[1] <= own[0] - part[0] ? 1 : 0;
            while (part[0] + part[1] > level) {
                part[part[cutFirst] > 0 ? cutFirst : 1 - cutFirst]--;
            }
            return part;
        }

        private void leave(int plant, int owner, int amount) {
            if (plant == 2) {
                gone[owner] += amount;
            } else {
                parcels.add(new Parcel(plant + 1, owner, hour + travel[plant], amount));
            }
        }

        int lend(int plant, int owner, int amount) {
            plantAndOwner(0, plant, owner);
            need(within(amount, 1, 100));
            if (account[plant][owner] < amount) {
                throw new IllegalStateException();
            }
            account[plant][owner] -= amount;
            account[plant][1 - owner] += amount;
            lent[owner] += amount;
            return account[plant][owner];
        }

        int account(int plant, int owner) {
            plantAndOwner(0, plant, owner);
            return account[plant][owner];
        }

        int level(int plant) {
            need(within(plant, 0, 2));
            return account[plant][0] + account[plant][1];
        }

        int travelling(int plant, int owner) {
            plantAndOwner(1, plant, owner);
            return parcels.stream().filter(p -> p.plant() == plant && p.owner() == owner)
                .mapToInt(Parcel::amount).sum();
        }

        int arriving(int plant, int owner, int inHour) {
            plantAndOwner(1, plant, owner);
            need(within(inHour, 0, 300));
            return parcels.stream().filter(p -> p.plant() == plant && p.owner() == owner && p.hour() == inHour)
                .mapToInt(Parcel::amount).sum();
        }

        int balance(int owner) {
            need(within(owner, 0, 1));
            return cameIn[owner] - gone[owner] - lent[owner] + lent[1 - owner];
        }

        /** The greatest energy, and the least release of the next hour that leads to it, by all rows of releases. */
        int[] best(int hours) {
            need(within(hours, 1, 6));
            int rows = (int) Math.pow(5, hours);
            int[] best = {-1, -1};
            for (int row = 0; row < rows; row++) {
                // the first hour's release is the greatest digit, so rows come in the order of that release
                int made = energyOfRow(row, rows / 5);
                if (made > best[0]) {
                    best[0] = made;
                    best[1] = row / (rows / 5) * 4;
                }
            }
            return best;
        }

        private int energyOfRow(int row, int firstDigit) {
            int level = level(0);
            int made = 0;
            for (int digit = firstDigit; digit > 0; digit /= 5) {
                int release = row / digit % 5 * 4;
                level += inflow[0];
                if (!allowed(level, release)) {
                    return -1;
                }
                made += mix(0, release) * (base[0] + level / 5) / 10;
                level = Math.min(level - release, capacity[0]);
            }
            return made;
        }

        private boolean allowed(int level, int release) {
            if (release > level) {
                return false;
            }
            boolean minimumCanBe = false;
            for (int other = 0; other <= 16; other += 4) {
                minimumCanBe |= other <= level && other >= minimum[0];
            }
            return !minimumCanBe || release >= minimum[0];
        }
    }
}
