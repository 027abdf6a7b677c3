/** Promises 22 to 24: the best releases of plant 0. */
final class BestReleasesTest {
    private BestReleasesTest() {
    }

    public static void main(String[] args) {
        oneHour();
        waitsForAHigherHead();
        leastOfSeveral();
        fullAndEmptyPondsGoOn();
        minimumBinds();
        minimumThatTheLevelDoesNotAllow();
        spillsAboveTheCapacity();
        levelAboveTheCapacity();
        asksOnlyForPlant0();
        changesNothing();
        refusals();
        Checks.end();
    }

    private static void oneHour() {
        Checks.dueBest(new WaterCascade(), 1, 0, 0);
        Checks.dueBest(Rivers.withLevel(3), 1, 0, 0);
        Checks.dueBest(Rivers.withLevel(4), 1, 40, 4);
        Checks.dueBest(Rivers.withLevel(15), 1, 120 * 13 / 10, 12);
        Checks.dueBest(Rivers.withLevel(16), 1, 160 * 13 / 10, 16);
        Checks.dueBest(Rivers.withLevel(200), 1, 160 * 50 / 10, 16);
        WaterCascade x = Rivers.withLevel(3);
        x.setInflow(0, 9, 0);
        Checks.dueBest(x, 1, 120 * 12 / 10, 12);
    }

    private static void waitsForAHigherHead() {
        WaterCascade x = new WaterCascade();
        x.setPond(0, 100, 0, 1);
        x.setInflow(0, 4, 50);
        x.run(1);
        Checks.dueBest(x, 1, 80 / 10, 8);
        Checks.dueBest(x, 2, 120 * 2 / 10, 0);
    }

    private static void leastOfSeveral() {
        WaterCascade x = Rivers.withLevel(40);
        for (int flow = 1; flow <= 8; flow++) {
            x.setYield(0, 0, flow, 0);
            x.setYield(0, 1, flow, flow < 4 ? 0 : 50);
        }
        Checks.dueBest(x, 1, 50 * 18 / 10, 4);
        x.setPond(0, 200, 0, 1);
        x.setYield(0, 1, 4, 0);
        Checks.dueBest(x, 1, 50 * 8 / 10, 8);
        for (int flow = 4; flow <= 8; flow++) {
            x.setYield(0, 1, flow, 0);
        }
        Checks.dueBest(x, 6, 0, 0);
    }

    private static void fullAndEmptyPondsGoOn() {
        WaterCascade full = Rivers.withLevel(200);
        full.setInflow(0, 50, 50);
        Checks.dueBest(full, 2, 2 * (160 * 60 / 10), 16);
        Checks.dueBest(full, 6, 6 * (160 * 60 / 10), 16);
        WaterCascade empty = new WaterCascade();
        empty.setInflow(0, 4, 50);
        empty.setMinimum(0, 4);
        Checks.dueBest(empty, 2, 2 * (40 * 10 / 10), 4);
        Checks.dueBest(empty, 6, 6 * (40 * 10 / 10), 4);
    }

    private static void minimumBinds() {
        WaterCascade x = Rivers.withLevel(20);
        for (int flow = 1; flow <= 8; flow++) {
            x.setYield(0, 0, flow, 0);
            x.setYield(0, 1, flow, 0);
        }
        int[][] minimumAndRelease = {{0, 0}, {1, 4}, {4, 4}, {5, 8}, {8, 8}, {9, 12}, {12, 12}, {13, 16}, {16, 16}};
        for (int[] pair : minimumAndRelease) {
            x.setMinimum(0, pair[0]);
            Checks.dueBest(x, 1, 0, pair[1]);
        }
        WaterCascade z = Rivers.withLevel(8);
        z.setPond(0, 200, 0, 1);
        z.setMinimum(0, 8);
        Checks.dueBest(z, 2, 80 / 10, 8);
        WaterCascade y = Rivers.withLevel(16);
        y.setPond(0, 200, 0, 1);
        y.setInflow(0, 4, 50);
        y.setMinimum(0, 5);
        Checks.dueBest(y, 2, 80 * 4 / 10 + 160 * 3 / 10, 8);
    }

    private static void minimumThatTheLevelDoesNotAllow() {
        WaterCascade x = Rivers.withLevel(11);
        x.setMinimum(0, 9);
        Checks.dueBest(x, 1, 80 * 12 / 10, 8);
        for (int flow = 1; flow <= 8; flow++) {
            x.setYield(0, 0, flow, 0);
            x.setYield(0, 1, flow, 0);
        }
        Checks.dueBest(x, 1, 0, 0);
        WaterCascade y = Rivers.withLevel(100);
        y.setMinimum(0, 17);
        Checks.dueBest(y, 1, 160 * 30 / 10, 16);
        y.setYield(0, 0, 8, 0);
        y.setYield(0, 1, 8, 0);
        Checks.dueBest(y, 1, 140 * 30 / 10, 16);
    }

    private static void spillsAboveTheCapacity() {
        WaterCascade x = new WaterCascade();
        x.setPond(0, 10, 0, 1);
        x.setInflow(0, 50, 50);
        Checks.dueBest(x, 1, 160 * 10 / 10, 16);
        Checks.dueBest(x, 2, 160 * 10 / 10 + 160 * 12 / 10, 16);
        Checks.dueBest(x, 3, 160 * 10 / 10 + 2 * (160 * 12 / 10), 16);
    }

    private static void levelAboveTheCapacity() {
        WaterCascade x = Rivers.withLevel(200);
        x.setPond(0, 1, 0, 0);
        Checks.dueBest(x, 1, 160 * 40 / 10, 16);
        Checks.dueBest(x, 6, 160 * 40 / 10, 16);
        x.setInflow(0, 50, 0);
        Checks.dueBest(x, 2, 160 * 50 / 10 + 160 * 10 / 10, 16);
    }

    private static void asksOnlyForPlant0() {
        WaterCascade x = new WaterCascade();
        x.setInflow(1, 50, 50);
        x.setInflow(2, 50, 50);
        x.run(2);
        x.order(0, 0, 30);
        Checks.dueBest(x, 6, 0, 0);
    }

    private static void changesNothing() {
        WaterCascade x = Rivers.withLevel(100);
        x.setInflow(0, 10, 50);
        int energy = x.bestEnergy(6);
        int fewer = x.bestEnergy(2);
        x.bestEnergyByAll(6);
        x.bestRelease(6);
        Checks.due("no hour is run", x.hour(), 2);
        Checks.due("the level stays", x.level(0), 100);
        Checks.due("no energy is made", x.energy(0), 0);
        Checks.due("the same is answered again", x.bestEnergy(6), energy);
        Checks.due("and for fewer hours", x.bestEnergy(2), fewer);
    }

    private static void refusals() {
        WaterCascade x = new WaterCascade();
        for (int hours : new int[] {0, -1, 7, Integer.MIN_VALUE, Integer.MAX_VALUE}) {
            Checks.refusesArgument("bestEnergy(" + hours + ")", () -> x.bestEnergy(hours));
            Checks.refusesArgument("bestEnergyByAll(" + hours + ")", () -> x.bestEnergyByAll(hours));
            Checks.refusesArgument("bestRelease(" + hours + ")", () -> x.bestRelease(hours));
        }
    }
}
