/** The edges of how hours follow plant by plant, and of the head and the energy (promises 7 and 8, 'Terms'). */
final class RunEdgesTest {
    private RunEdgesTest() {
    }

    public static void main(String[] args) {
        hoursAreNumberedFrom0();
        anHourIsRunAtATime();
        the200thHourIsAsTheOthers();
        arrivingWaterComesToTheOwnAccount();
        arrivingWaterIsThereForTheParts();
        arrivingWaterTellsWhoLetsGoTheMinimum();
        arrivingWaterIsInTheHead();
        plantsFollowFrom0To2();
        waterRunsDownAlone();
        headIsRoundedDown();
        headIsAheadOfThePartsAndTheSpill();
        energyIsRoundedDown();
        energyIsRoundedDownInEachHour();
        energyOfTheMostFlow();
        energyWithoutFlow();
        settingsOfTheHourCount();
        settingsStandInAllHours();
        the512thCall();
        Checks.end();
    }

    private static void hoursAreNumberedFrom0() {
        WaterCascade x = new WaterCascade();
        Checks.due("hour", x.hour(), 0);
        Checks.due("run(1)", x.run(1), 1);
        Checks.due("hour", x.hour(), 1);
        Checks.due("run(24)", x.run(24), 25);
        Checks.due("hour", x.hour(), 25);
        Checks.due("asking runs nothing", x.hour(), 25);
    }

    private static void anHourIsRunAtATime() {
        WaterCascade once = Rivers.BUSY.make();
        once.run(24);
        WaterCascade often = Rivers.BUSY.make();
        for (int hour = 0; hour < 24; hour++) {
            often.run(1);
        }
        Checks.isTrue("24 hours at once are 24 hours", Tour.of(once).equals(Tour.of(often)));
    }

    private static void the200thHourIsAsTheOthers() {
        WaterCascade x = new WaterCascade();
        x.setInflow(2, 1, 100);
        x.order(2, 0, 1);
        for (int day = 0; day < 8; day++) {
            x.run(24);
        }
        x.run(7);
        Checks.due("199 hours brought", x.cameIn(0), 199);
        Checks.due("the last run", x.run(1), 200);
        Checks.due("the last hour", x.hour(), 200);
        Checks.due("200 hours brought", x.cameIn(0), 200);
        Checks.due("200 hours took", x.gone(0), 200);
        Checks.due("200 hours made", x.energy(2), 200 * 10);
    }

    private static void arrivingWaterComesToTheOwnAccount() {
        WaterCascade x = Rivers.withAccounts(0, 9, 20);
        x.order(0, 0, 2);
        x.order(0, 1, 11);
        x.run(2);
        Checks.due("owner 0's", x.account(1, 0), 2);
        Checks.due("owner 1's", x.account(1, 1), 11);
    }

    private static void arrivingWaterIsThereForTheParts() {
        WaterCascade x = Rivers.withAccounts(0, 9, 20);
        x.order(0, 0, 2);
        x.order(0, 1, 11);
        x.order(1, 0, 2);
        x.order(1, 1, 11);
        x.run(2);
        Checks.due("it is let go in its hour", x.level(1), 0);
        Checks.due("owner 0's", x.arriving(2, 0, x.hour()), 2);
        Checks.due("owner 1's", x.arriving(2, 1, x.hour()), 11);
    }

    private static void arrivingWaterTellsWhoLetsGoTheMinimum() {
        WaterCascade x = new WaterCascade();
        x.setPond(0, 100, 10, 0);
        x.setInflow(0, 3, 0);
        x.order(0, 1, 3);
        x.setInflow(1, 2, 100);
        x.setMinimum(1, 2);
        x.run(1);
        Checks.due("3 that arrived are more than 2 that came in", x.account(1, 1), 1);
        Checks.due("owner 0 keeps", x.account(1, 0), 2);
        x.order(0, 1, 1);
        x.run(1);
        Checks.due("2 and 2 that came in are more than 1 and 1 that arrived", x.account(1, 0), 2);
        Checks.due("owner 1 keeps", x.account(1, 1), 2);
        x.order(0, 1, 2);
        x.run(1);
        Checks.due("owner 0 lets it go, if both have 4", x.account(1, 0), 2);
        Checks.due("owner 1 keeps", x.account(1, 1), 4);
        x.order(0, 1, 1);
        x.run(1);
        Checks.due("2 and 2 that came in are less than 4 and 1 that arrived", x.account(1, 0), 4);
        Checks.due("owner 1 lets it go", x.account(1, 1), 3);
    }

    private static void arrivingWaterIsInTheHead() {
        WaterCascade x = new WaterCascade();
        x.setPond(0, 100, 10, 0);
        x.setPond(1, 100, 0, 1);
        x.setInflow(0, 4, 0);
        x.order(0, 1, 4);
        x.setInflow(1, 1, 100);
        x.order(1, 0, 1);
        x.run(1);
        Checks.due("4 that arrived and 1 that came in: 10 * (0 + 5 / 5) / 10", x.energy(1), 1);
    }

    private static void plantsFollowFrom0To2() {
        WaterCascade x = new WaterCascade();
        for (int plant = 0; plant < 3; plant++) {
            x.setPond(plant, 100, 10, 0);
            x.order(plant, 1, 5);
        }
        x.setInflow(0, 5, 0);
        x.run(1);
        Checks.due("with travel 0 all is gone in the hour", x.gone(1), 5);
        WaterCascade y = new WaterCascade();
        y.setPond(0, 100, 10, 1);
        y.setPond(1, 100, 10, 0);
        for (int plant = 0; plant < 3; plant++) {
            y.order(plant, 1, 5);
        }
        y.setInflow(0, 5, 0);
        y.run(1);
        Checks.due("with travel 1 and 0 not in the first hour", y.gone(1), 0);
        Checks.due("nor has it passed plant 1", y.travelling(1, 1), 5);
        y.run(1);
        Checks.due("but in the second", y.gone(1), 5);
    }

    private static void waterRunsDownAlone() {
        WaterCascade x = new WaterCascade();
        x.setInflow(2, 10, 0);
        x.order(2, 1, 10);
        x.run(6);
        Checks.due("none from plant 2 to plant 0", x.level(0), 0);
        Checks.due("nor to plant 1", x.level(1), 0);
        WaterCascade y = new WaterCascade();
        y.setInflow(1, 10, 0);
        y.order(1, 1, 10);
        y.run(6);
        Checks.due("none from plant 1 to plant 0", y.level(0), 0);
        Checks.due("nor to itself", y.level(1), 0);
        Checks.due("but to plant 2", y.level(2), 50);
    }

    private static int energyOfOne(int plant, int level, int base, int yieldOf1) {
        WaterCascade x = Rivers.withAccounts(plant, level, 0);
        x.setPond(plant, 200, base, 1);
        x.setYield(plant, 0, 1, yieldOf1);
        x.setYield(plant, 1, 1, 0);
        x.order(plant, 0, 1);
        x.run(1);
        return x.energy(plant);
    }

    private static void headIsRoundedDown() {
        for (int plant = 0; plant < 3; plant++) {
            Checks.due("4 / 5", energyOfOne(plant, 4, 7, 10), 7);
            Checks.due("5 / 5", energyOfOne(plant, 5, 7, 10), 8);
            Checks.due("9 / 5", energyOfOne(plant, 9, 7, 10), 8);
            Checks.due("10 / 5", energyOfOne(plant, 10, 7, 10), 9);
            Checks.due("100 / 5", energyOfOne(plant, 100, 7, 10), 27);
        }
    }

    private static void headIsAheadOfThePartsAndTheSpill() {
        WaterCascade x = Rivers.withAccounts(1, 30, 20);
        x.setPond(1, 5, 0, 1);
        x.order(1, 0, 1);
        x.run(1);
        Checks.due("10 * (50 / 5) / 10", x.energy(1), 10);
        x.run(1);
        Checks.due("10 * (5 / 5) / 10 more, behind the spill", x.energy(1), 11);
        x.run(1);
        Checks.due("10 * (4 / 5) / 10 more", x.energy(1), 11);
    }

    private static void energyIsRoundedDown() {
        Checks.due("9 * 1 / 10", energyOfOne(0, 1, 1, 9), 0);
        Checks.due("10 * 1 / 10", energyOfOne(0, 1, 1, 10), 1);
        Checks.due("19 * 1 / 10", energyOfOne(0, 1, 1, 19), 1);
        Checks.due("20 * 1 / 10", energyOfOne(0, 1, 1, 20), 2);
        Checks.due("9 * 11 / 10", energyOfOne(0, 1, 11, 9), 9);
        Checks.due("3 * 3 / 10", energyOfOne(0, 1, 3, 3), 0);
        Checks.due("1 * 10 / 10", energyOfOne(0, 1, 10, 1), 1);
        Checks.due("1 * 9 / 10", energyOfOne(0, 1, 9, 1), 0);
    }

    private static void energyIsRoundedDownInEachHour() {
        WaterCascade x = new WaterCascade();
        x.setPond(2, 200, 1, 1);
        x.setYield(2, 0, 1, 9);
        x.setYield(2, 1, 1, 9);
        x.setInflow(2, 1, 100);
        x.order(2, 0, 1);
        x.run(10);
        Checks.due("10 hours of 9 / 10", x.energy(2), 0);
        x.setPond(2, 200, 2, 1);
        x.run(10);
        Checks.due("10 hours of 18 / 10", x.energy(2), 10);
    }

    private static void energyOfTheMostFlow() {
        WaterCascade x = Rivers.FULL.make();
        for (int plant = 0; plant < 3; plant++) {
            x.setPond(plant, 200, 100, 0);
            x.setYield(plant, 0, 8, 200);
            x.setYield(plant, 1, 8, 200);
            x.order(plant, 0, 30);
            x.order(plant, 1, 30);
        }
        x.run(1);
        Checks.due("400 * (100 + 250 / 5) / 10", x.energy(0), 6000);
        Checks.due("400 * (100 + 310 / 5) / 10", x.energy(1), 6480);
        // plant 1 lets go 60 of 310 and spills 50
        Checks.due("400 * (100 + 360 / 5) / 10", x.energy(2), 6880);
    }

    private static void energyWithoutFlow() {
        WaterCascade x = Rivers.FULL.make();
        x.run(1);
        for (int plant = 0; plant < 3; plant++) {
            Checks.due("what is spilled makes none", x.energy(plant), 0);
            Checks.isTrue("though it is spilled", x.spilled(plant) > 0);
        }
    }

    private static void settingsOfTheHourCount() {
        WaterCascade x = Rivers.withAccounts(0, 50, 50);
        x.order(0, 0, 3);
        x.order(0, 0, 4);
        x.run(1);
        Checks.due("the order as it is", x.account(0, 0), 46);
        x.order(0, 0, 0);
        x.setMinimum(0, 9);
        x.run(1);
        Checks.due("the minimum as it is", x.account(0, 1), 41);
        x.setMinimum(0, 0);
        x.run(1);
        Checks.due("and no more", x.level(0), 87);
    }

    private static void settingsStandInAllHours() {
        WaterCascade x = new WaterCascade();
        for (int plant = 0; plant < 3; plant++) {
            x.setPond(plant, 200, 90, 0);
            x.setInflow(plant, 10, 50);
            x.setMinimum(plant, 9);
            // what comes in here and from above
            x.order(plant, 0, 5 * plant + 5);
            x.order(plant, 1, 5 * plant + 5);
            x.setYield(plant, 1, 8, 33);
        }
        for (int hour = 1; hour <= 200; hour++) {
            x.run(1);
            Checks.due("gone in " + hour + " hours", x.gone(1), 15 * hour);
        }
        Checks.due("200 * (100 * (90 + 10 / 5) / 10)", x.energy(0), 200 * 920);
        Checks.due("200 * (150 * (90 + 20 / 5) / 10)", x.energy(1), 200 * 1410);
        Checks.due("200 * (150 * (90 + 30 / 5) / 10)", x.energy(2), 200 * 1440);
        for (int plant = 0; plant < 3; plant++) {
            Checks.due("the inflow still", x.setInflow(plant, 0, 0), 10);
            Checks.due("the minimum still", x.setMinimum(plant, 0), 9);
            Checks.due("owner 0's order still", x.order(plant, 0, 0), 5 * plant + 5);
            Checks.due("owner 1's order still", x.order(plant, 1, 0), 5 * plant + 5);
            Checks.due("the yield still", x.setYield(plant, 1, 8, 0), 33);
        }
    }

    /** An object is used for at most 512 calls after it has been made; the last of them is as the first. */
    private static void the512thCall() {
        WaterCascade x = new WaterCascade();
        x.setInflow(0, 30, 40);
        x.run(1);
        for (int call = 3; call <= 402; call++) {
            Checks.due("call " + call + ", lend to and fro", x.lend(0, call % 2, 6), 12);
        }
        for (int call = 403; call <= 505; call++) {
            Checks.due("call " + call, x.bestEnergyByAll(2), 160 * 22 / 10 + 160 * 24 / 10);
        }
        Checks.due("call 506", x.order(0, 0, 4), 0);
        Checks.due("call 507", x.run(1), 2);
        Checks.due("call 508", x.account(0, 0), 20);
        Checks.refusesState("call 509", () -> x.lend(0, 0, 21));
        Checks.refusesArgument("call 510", () -> x.bestRelease(7));
        Checks.due("call 511", x.energy(0), 40 * 22 / 10);
        Checks.due("call 512", x.run(24), 26);
    }
}
