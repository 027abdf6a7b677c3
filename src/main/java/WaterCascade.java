/**
 * A cascade of three hydro plants on one river, whose water two owners share.
 * ../shared/DOC.md says what each call promises.
 */
public final class WaterCascade {
    private static final int PLANTS = 3;
    private static final int OWNERS = 2;
    private static final int TURBINES = 2;
    private static final int TURBINE_FLOW = 8;
    private static final int PLANT_FLOW = 16;
    private static final int MOST_CAPACITY = 200;
    private static final int MOST_TRAVEL = 5;
    /** Water is under way to the hours from the one that is run to MOST_TRAVEL later, so no two of them share a slot. */
    private static final int SLOTS = MOST_TRAVEL + 1;
    private static final int MOST_HOURS = 200;
    private static final int PLAN_HOURS = 6;
    private static final int RELEASE_STEP = 4;

    private final Plant[] plants = new Plant[PLANTS];
    private final int[] inflowSoFar = new int[OWNERS];
    private final int[] goneSoFar = new int[OWNERS];
    /** What was lent to each owner, less what the owner lent. */
    private final int[] borrowed = new int[OWNERS];
    /** Two rows over the levels of plant 0, made once because each question about releases needs them. */
    private final int[] bestLater = new int[MOST_CAPACITY + 1];
    private final int[] bestNow = new int[MOST_CAPACITY + 1];
    private int nextHour;

    public WaterCascade() {
        for (int plant = 0; plant < PLANTS; plant++) {
            plants[plant] = new Plant();
        }
    }

    // ---- settings

    public void setPond(int plant, int capacity, int base, int travel) throws IllegalArgumentException {
        checkPlant(plant);
        checkRange(capacity, 1, MOST_CAPACITY);
        checkRange(base, 0, 100);
        checkRange(travel, 0, MOST_TRAVEL);
        Plant pond = plants[plant];
        pond.capacity = capacity;
        pond.base = base;
        pond.travel = travel;
    }

    public int setInflow(int plant, int inflow, int share) throws IllegalArgumentException {
        checkPlant(plant);
        checkRange(inflow, 0, 50);
        checkRange(share, 0, 100);
        int before = plants[plant].inflow;
        plants[plant].inflow = inflow;
        plants[plant].share = share;
        return before;
    }

    public int setMinimum(int plant, int flow) throws IllegalArgumentException {
        checkPlant(plant);
        checkRange(flow, 0, 20);
        int before = plants[plant].minimum;
        plants[plant].minimum = flow;
        return before;
    }

    public int order(int plant, int owner, int flow) throws IllegalArgumentException {
        checkPlant(plant);
        checkOwner(owner);
        checkRange(flow, 0, 30);
        int before = plants[plant].orders[owner];
        plants[plant].orders[owner] = flow;
        return before;
    }

    public int setYield(int plant, int turbine, int flow, int power) throws IllegalArgumentException {
        checkPlant(plant);
        checkRange(turbine, 0, TURBINES - 1);
        checkRange(flow, 1, TURBINE_FLOW);
        checkRange(power, 0, 200);
        int before = plants[plant].yields[turbine][flow];
        plants[plant].yields[turbine][flow] = power;
        plants[plant].findMixes();
        return before;
    }

    // ---- hours

    public int run(int hours) throws IllegalArgumentException, IllegalStateException {
        checkRange(hours, 1, 24);
        if (nextHour + hours > MOST_HOURS) {
            throw new IllegalStateException("more than 200 hours");
        }
        for (int done = 0; done < hours; done++) {
            for (int plant = 0; plant < PLANTS; plant++) {
                runPlant(plant);
            }
            nextHour++;
        }
        return nextHour;
    }

    public int hour() {
        return nextHour;
    }

    public int lend(int plant, int owner, int amount) throws IllegalArgumentException, IllegalStateException {
        checkPlant(plant);
        checkOwner(owner);
        checkRange(amount, 1, 100);
        int[] accounts = plants[plant].accounts;
        if (accounts[owner] < amount) {
            throw new IllegalStateException("the account is less than the amount");
        }
        int other = 1 - owner;
        accounts[owner] -= amount;
        accounts[other] += amount;
        borrowed[owner] -= amount;
        borrowed[other] += amount;
        return accounts[owner];
    }

    // ---- what is

    public int account(int plant, int owner) throws IllegalArgumentException {
        checkPlant(plant);
        checkOwner(owner);
        return plants[plant].accounts[owner];
    }

    public int level(int plant) throws IllegalArgumentException {
        checkPlant(plant);
        return plants[plant].waterInPond();
    }

    public int travelling(int plant, int owner) throws IllegalArgumentException {
        checkLowerPlant(plant);
        checkOwner(owner);
        return plants[plant].allUnderWay(owner);
    }

    public int arriving(int plant, int owner, int hour) throws IllegalArgumentException {
        checkLowerPlant(plant);
        checkOwner(owner);
        checkRange(hour, 0, 300);
        if (hour < nextHour || hour > nextHour + MOST_TRAVEL) {
            return 0;
        }
        return plants[plant].underWay[owner][slotOf(hour)];
    }

    public int cameIn(int owner) throws IllegalArgumentException {
        checkOwner(owner);
        return inflowSoFar[owner];
    }

    public int gone(int owner) throws IllegalArgumentException {
        checkOwner(owner);
        return goneSoFar[owner];
    }

    public int balance(int owner) throws IllegalArgumentException {
        checkOwner(owner);
        return inflowSoFar[owner] - goneSoFar[owner] + borrowed[owner];
    }

    public int spilled(int plant) throws IllegalArgumentException {
        checkPlant(plant);
        return plants[plant].spilledSoFar;
    }

    public int missed(int plant) throws IllegalArgumentException {
        checkPlant(plant);
        return plants[plant].missedHours;
    }

    public int flow(int plant) throws IllegalArgumentException {
        checkPlant(plant);
        return plants[plant].latestFlow;
    }

    public int energy(int plant) throws IllegalArgumentException {
        checkPlant(plant);
        return plants[plant].energySoFar;
    }

    public int mix(int plant, int flow) throws IllegalArgumentException {
        checkPlant(plant);
        checkRange(flow, 0, PLANT_FLOW);
        return plants[plant].mixFor(flow);
    }

    // ---- the best releases of plant 0

    public int bestEnergy(int hours) throws IllegalArgumentException {
        checkRange(hours, 1, PLAN_HOURS);
        workBackTo(hours - 1);
        return greatestFrom(plants[0].waterInPond());
    }

    public int bestEnergyByAll(int hours) throws IllegalArgumentException {
        checkRange(hours, 1, PLAN_HOURS);
        return greatestByTrying(plants[0], plants[0].waterInPond(), hours);
    }

    public int bestRelease(int hours) throws IllegalArgumentException {
        checkRange(hours, 1, PLAN_HOURS);
        workBackTo(hours - 1);
        return leastBestRelease(plants[0].waterInPond() + plants[0].inflow);
    }

    // ---- arguments

    private static void checkRange(int value, int least, int most) {
        if (value < least || value > most) {
            throw new IllegalArgumentException("out of range");
        }
    }

    private static void checkPlant(int plant) {
        checkRange(plant, 0, PLANTS - 1);
    }

    /** Nothing travels to the uppermost plant. */
    private static void checkLowerPlant(int plant) {
        checkRange(plant, 1, PLANTS - 1);
    }

    private static void checkOwner(int owner) {
        checkRange(owner, 0, OWNERS - 1);
    }

    // ---- an hour

    private static int slotOf(int hour) {
        return Math.floorMod(hour, SLOTS);
    }

    private void runPlant(int index) {
        Plant plant = plants[index];
        for (int owner = 0; owner < OWNERS; owner++) {
            int inflow = plant.inflowOf(owner);
            plant.accounts[owner] += plant.takeArrived(owner, slotOf(nextHour)) + inflow;
            inflowSoFar[owner] += inflow;
        }
        plant.letGo();
        plant.spillOver();
        for (int owner = 0; owner < OWNERS; owner++) {
            sendOn(index, owner);
        }
    }

    private void sendOn(int index, int owner) {
        int amount = plants[index].away[owner];
        int next = index + 1;
        if (next < PLANTS) {
            plants[next].underWay[owner][slotOf(nextHour + plants[index].travel)] += amount;
        } else {
            goneSoFar[owner] += amount;
        }
    }

    // ---- working back over levels

    /** Leaves in bestLater the greatest energy of so many hours, from each level. */
    private void workBackTo(int hours) {
        for (int level = 0; level <= MOST_CAPACITY; level++) {
            bestLater[level] = 0;
        }
        for (int done = 0; done < hours; done++) {
            for (int level = 0; level <= MOST_CAPACITY; level++) {
                bestNow[level] = greatestFrom(level);
            }
            System.arraycopy(bestNow, 0, bestLater, 0, MOST_CAPACITY + 1);
        }
    }

    /** The greatest energy of one hour more than bestLater tells of. */
    private int greatestFrom(int level) {
        int filled = level + plants[0].inflow;
        return energyFrom(filled, leastBestRelease(filled));
    }

    private int leastBestRelease(int filled) {
        int first = plants[0].leastRelease(filled);
        int best = first;
        int greatest = energyFrom(filled, first);
        for (int release = first + RELEASE_STEP; release <= PLANT_FLOW && release <= filled; release += RELEASE_STEP) {
            int energy = energyFrom(filled, release);
            if (energy > greatest) {
                best = release;
                greatest = energy;
            }
        }
        return best;
    }

    private int energyFrom(int filled, int release) {
        int left = plants[0].levelBehind(filled, release);
        int later = left < 0 || left > MOST_CAPACITY ? 0 : bestLater[left];
        return plants[0].energyAt(filled, release) + later;
    }

    // ---- trying all

    private static int greatestByTrying(Plant plant, int level, int hours) {
        if (hours < 1 || hours > PLAN_HOURS) {
            return 0;
        }
        int filled = level + plant.inflow;
        int best = 0;
        int first = plant.leastRelease(filled);
        for (int release = first; release <= PLANT_FLOW && release <= filled; release += RELEASE_STEP) {
            int later = greatestByTrying(plant, plant.levelBehind(filled, release), hours - 1);
            best = Math.max(best, plant.energyAt(filled, release) + later);
        }
        return best;
    }

    /** A plant with its pond, its turbines and the water that is under way to it. */
    private static final class Plant {
        int capacity = 100;
        int base = 10;
        int travel = 1;
        int minimum;
        int inflow;
        int share = 50;
        final int[] orders = new int[OWNERS];
        final int[] accounts = new int[OWNERS];
        /** What each owner lets go, and then spills too, in the hour that is run. */
        final int[] away = new int[OWNERS];
        final int[][] underWay = new int[OWNERS][SLOTS];
        final int[][] yields = new int[TURBINES][TURBINE_FLOW + 1];
        /** Kept because the best releases ask for mixes far more often than yields change. */
        private final int[] mixes = new int[PLANT_FLOW + 1];
        int spilledSoFar;
        int missedHours;
        int latestFlow;
        int energySoFar;

        Plant() {
            for (int flow = 0; flow <= TURBINE_FLOW; flow++) {
                yields[0][flow] = 10 * flow;
                yields[1][flow] = 10 * flow;
            }
            findMixes();
        }

        void findMixes() {
            for (int flow = 0; flow <= PLANT_FLOW; flow++) {
                mixes[flow] = 0;
            }
            for (int one = 0; one <= TURBINE_FLOW; one++) {
                for (int other = 0; other <= TURBINE_FLOW; other++) {
                    int both = yields[0][one] + yields[1][other];
                    mixes[one + other] = Math.max(mixes[one + other], both);
                }
            }
            // a mix may leave some of the flow unused, so it is never less than that for less flow
            for (int flow = 1; flow <= PLANT_FLOW; flow++) {
                mixes[flow] = Math.max(mixes[flow], mixes[flow - 1]);
            }
        }

        int mixFor(int flow) {
            return flow < 0 || flow > PLANT_FLOW ? 0 : mixes[flow];
        }

        int waterInPond() {
            return accounts[0] + accounts[1];
        }

        int energyAt(int level, int flow) {
            return mixFor(flow) * (base + level / 5) / 10;
        }

        int inflowOf(int owner) {
            int ofFirst = inflow * share / 100;
            return owner == 0 ? ofFirst : inflow - ofFirst;
        }

        int takeArrived(int owner, int slot) {
            int arrived = underWay[owner][slot];
            underWay[owner][slot] = 0;
            return arrived;
        }

        int allUnderWay(int owner) {
            int all = 0;
            for (int slot = 0; slot < SLOTS; slot++) {
                all += underWay[owner][slot];
            }
            return all;
        }

        void letGo() {
            int level = waterInPond();
            setParts(level);
            int parts = away[0] + away[1];
            if (parts < minimum) {
                missedHours++;
            }
            latestFlow = Math.min(parts, PLANT_FLOW);
            energySoFar += energyAt(level, latestFlow);
            accounts[0] -= away[0];
            accounts[1] -= away[1];
        }

        private void setParts(int level) {
            away[0] = orders[0];
            away[1] = orders[1];
            int missing = minimum - away[0] - away[1];
            if (missing > 0) {
                away[ownerWithMore()] += missing;
            }
            int tooMuch = away[0] + away[1] - level;
            if (tooMuch > 0) {
                cutParts(tooMuch);
            }
        }

        private void cutParts(int tooMuch) {
            int first = accounts[0] - away[0] < accounts[1] - away[1] ? 0 : 1;
            int cut = Math.min(tooMuch, away[first]);
            away[first] -= cut;
            away[1 - first] -= tooMuch - cut;
        }

        private int ownerWithMore() {
            return accounts[0] >= accounts[1] ? 0 : 1;
        }

        void spillOver() {
            int above = waterInPond() - capacity;
            if (above > 0) {
                int owner = ownerWithMore();
                accounts[owner] -= above;
                away[owner] += above;
                spilledSoFar += above;
            }
        }

        /** The least number of the plan that is not less than the minimum flow, or 0 if the level allows none. */
        int leastRelease(int level) {
            int least = (minimum + RELEASE_STEP - 1) / RELEASE_STEP * RELEASE_STEP;
            return least > PLANT_FLOW || least > level ? 0 : least;
        }

        int levelBehind(int level, int release) {
            return Math.min(level - release, capacity);
        }
    }
}
