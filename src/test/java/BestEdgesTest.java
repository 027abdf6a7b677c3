/** The edges of the best releases of plant 0 (promises 22 to 24). */
final class BestEdgesTest {
    private BestEdgesTest() {
    }

    public static void main(String[] args) {
        oneToSixHours();
        noMoreThanTheLevel();
        noMoreThan16();
        noOtherNumbers();
        behindTheInflow();
        theInflowAsItIs();
        notLessThanTheMinimum();
        aMinimumThatTheLevelDoesNotAllow();
        aMinimumAbove16();
        theMinimumInEachHour();
        theMinimumThatALaterLevelDoesNotAllow();
        theWholeMinimumFlowAndMore();
        aPondJustFull();
        aPondOneAboveTheCapacity();
        spilledBehindTheRelease();
        aPondOf1();
        theLeastOfSeveral();
        theLeastOfSeveralThatWait();
        roundedDownInEachHour();
        ofTheLevelAlone();
        ofPlant0Alone();
        fromTheHour200On();
        bothWaysAnswerTheSame();
        questionsChangeNothing();
        Checks.end();
    }

    /** The first turbine yields so much for each flow from a first one on, the second one nothing. */
    private static WaterCascade flat(WaterCascade x, int from, int power) {
        for (int flow = 1; flow <= 8; flow++) {
            x.setYield(0, 0, flow, flow < from ? 0 : power);
            x.setYield(0, 1, flow, 0);
        }
        return x;
    }

    private static void oneToSixHours() {
        WaterCascade x = Rivers.withLevel(200);
        x.setInflow(0, 50, 50);
        for (int hours = 1; hours <= 6; hours++) {
            // the pond is full again behind each hour
            Checks.dueBest(x, hours, hours * 160 * (10 + 250 / 5) / 10, 16);
        }
    }

    private static void noMoreThanTheLevel() {
        int[] releases = {0, 0, 0, 0, 4, 4, 4, 4, 8, 8, 8, 8, 12, 12, 12, 12, 16, 16, 16, 16, 16};
        for (int level = 0; level <= 20; level++) {
            int release = releases[level];
            Checks.dueBest(Rivers.withLevel(level), 1, 10 * release * (10 + level / 5) / 10, release);
        }
    }

    private static void noMoreThan16() {
        Checks.dueBest(Rivers.withLevel(17), 1, 160 * 13 / 10, 16);
        Checks.dueBest(Rivers.withLevel(60), 1, 160 * 22 / 10, 16);
        Checks.dueBest(Rivers.withLevel(200), 1, 160 * 50 / 10, 16);
    }

    private static void noOtherNumbers() {
        WaterCascade three = flat(Rivers.withLevel(3), 1, 200);
        Checks.dueBest(three, 1, 0, 0);
        Checks.dueBest(three, 6, 0, 0);
        Checks.dueBest(flat(Rivers.withLevel(4), 1, 200), 1, 200, 4);
        Checks.dueBest(flat(Rivers.withLevel(7), 5, 200), 1, 0, 0);
        Checks.dueBest(flat(Rivers.withLevel(8), 5, 200), 1, 200 * 11 / 10, 8);
    }

    private static void behindTheInflow() {
        WaterCascade x = new WaterCascade();
        x.setInflow(0, 3, 100);
        Checks.dueBest(x, 1, 0, 0);
        x.setInflow(0, 4, 100);
        Checks.dueBest(x, 1, 40 * 10 / 10, 4);
        WaterCascade y = Rivers.withLevel(3);
        y.setInflow(0, 1, 0);
        Checks.dueBest(y, 1, 40 * 10 / 10, 4);
        WaterCascade z = Rivers.withLevel(15);
        z.setInflow(0, 1, 0);
        Checks.dueBest(z, 1, 160 * 13 / 10, 16);
        WaterCascade w = Rivers.withLevel(4);
        w.setInflow(0, 1, 0);
        Checks.dueBest(w, 1, 40 * 11 / 10, 4);
    }

    private static void theInflowAsItIs() {
        WaterCascade x = new WaterCascade();
        x.setMinimum(0, 4);
        for (int share = 0; share <= 100; share += 50) {
            x.setInflow(0, 4, share);
            for (int hours = 1; hours <= 6; hours++) {
                Checks.dueBest(x, hours, hours * 40 * 10 / 10, 4);
            }
        }
        x.setInflow(0, 0, 50);
        Checks.dueBest(x, 6, 0, 0);
        x.setInflow(0, 50, 50);
        Checks.dueBest(x, 1, 160 * 20 / 10, 16);
    }

    private static void dueLeast(int minimum, int level, int release) {
        WaterCascade x = flat(Rivers.withLevel(level), 1, 0);
        x.setMinimum(0, minimum);
        Checks.dueBest(x, 1, 0, release);
    }

    /** Nothing is to be won there, so the least number that may be is told. */
    private static void notLessThanTheMinimum() {
        dueLeast(0, 16, 0);
        dueLeast(1, 16, 4);
        dueLeast(3, 16, 4);
        dueLeast(4, 16, 4);
        dueLeast(5, 16, 8);
        dueLeast(8, 16, 8);
        dueLeast(9, 16, 12);
        dueLeast(12, 16, 12);
        dueLeast(13, 16, 16);
        dueLeast(16, 16, 16);
        dueLeast(16, 200, 16);
        dueLeast(1, 4, 4);
        dueLeast(4, 4, 4);
        dueLeast(8, 8, 8);
        dueLeast(12, 12, 12);
        dueLeast(12, 13, 12);
    }

    private static void aMinimumThatTheLevelDoesNotAllow() {
        dueLeast(1, 3, 0);
        dueLeast(4, 3, 0);
        dueLeast(5, 7, 0);
        dueLeast(8, 7, 0);
        dueLeast(9, 11, 0);
        dueLeast(12, 11, 0);
        dueLeast(13, 15, 0);
        dueLeast(16, 15, 0);
        dueLeast(16, 0, 0);
        int[][] minimumLevelRelease = {{1, 3, 0}, {5, 7, 4}, {8, 7, 4}, {9, 11, 8}, {13, 15, 12}, {16, 15, 12}};
        for (int[] row : minimumLevelRelease) {
            WaterCascade x = Rivers.withLevel(row[1]);
            x.setMinimum(0, row[0]);
            Checks.dueBest(x, 1, row[2] * (10 + row[1] / 5), row[2]);
        }
    }

    private static void aMinimumAbove16() {
        for (int minimum = 17; minimum <= 20; minimum++) {
            dueLeast(minimum, 16, 0);
            dueLeast(minimum, 20, 0);
            dueLeast(minimum, 200, 0);
            WaterCascade x = flat(Rivers.withLevel(200), 4, 50);
            x.setMinimum(0, minimum);
            Checks.dueBest(x, 1, 50 * 50 / 10, 4);
        }
    }

    private static void theMinimumInEachHour() {
        WaterCascade x = Rivers.withLevel(24);
        x.setPond(0, 200, 0, 1);
        // 8 and 16 make 32 and 48; so do 0, 8 and 16
        Checks.dueBest(x, 3, 80, 0);
        x.setMinimum(0, 8);
        Checks.dueBest(x, 3, 80, 8);
        x.setMinimum(0, 12);
        // 12 and 12 make 48 and 24; 16 makes 64
        Checks.dueBest(x, 3, 72, 12);
        x.setMinimum(0, 16);
        // 16 makes 64; the 8 that are left may flow by 8, which makes 8 more
        Checks.dueBest(x, 3, 72, 16);
    }

    private static void theMinimumThatALaterLevelDoesNotAllow() {
        WaterCascade x = flat(Rivers.withLevel(12), 4, 100);
        x.setMinimum(0, 8);
        Checks.dueBest(x, 1, 100 * 12 / 10, 8);
        Checks.dueBest(x, 2, 100 * 12 / 10 + 100 * 10 / 10, 8);
        Checks.dueBest(x, 3, 100 * 12 / 10 + 100 * 10 / 10, 8);
    }

    private static void theWholeMinimumFlowAndMore() {
        WaterCascade x = Rivers.withLevel(16);
        x.setMinimum(0, 1);
        Checks.dueBest(x, 1, 160 * 13 / 10, 16);
        WaterCascade y = flat(Rivers.withLevel(16), 8, 100);
        y.setMinimum(0, 4);
        Checks.dueBest(y, 1, 100 * 13 / 10, 8);
    }

    private static void aPondJustFull() {
        WaterCascade x = flat(Rivers.withLevel(19), 4, 50);
        x.setPond(0, 15, 0, 1);
        // 4 leave 15, and all of it stays
        Checks.dueBest(x, 2, 50 * 3 / 10 + 50 * 3 / 10, 4);
        WaterCascade y = flat(Rivers.withLevel(200), 4, 50);
        y.setPond(0, 200, 0, 1);
        y.setInflow(0, 4, 50);
        Checks.dueBest(y, 2, 50 * 40 / 10 + 50 * 40 / 10, 4);
    }

    private static void aPondOneAboveTheCapacity() {
        WaterCascade x = flat(Rivers.withLevel(19), 4, 50);
        x.setPond(0, 14, 0, 1);
        // 4 leave 15, and 1 of it is spilled
        Checks.dueBest(x, 2, 50 * 3 / 10 + 50 * 2 / 10, 4);
        WaterCascade y = flat(Rivers.withLevel(20), 4, 50);
        y.setPond(0, 15, 0, 1);
        Checks.dueBest(y, 2, 50 * 4 / 10 + 50 * 3 / 10, 4);
        WaterCascade z = flat(Rivers.withLevel(199), 4, 50);
        z.setPond(0, 199, 0, 1);
        z.setInflow(0, 5, 50);
        Checks.dueBest(z, 2, 50 * 40 / 10 + 50 * 40 / 10, 4);
        z.setInflow(0, 1, 50);
        Checks.dueBest(z, 2, 50 * 40 / 10 + 50 * 39 / 10, 4);
    }

    private static void spilledBehindTheRelease() {
        WaterCascade x = new WaterCascade();
        x.setPond(0, 1, 0, 1);
        x.setInflow(0, 16, 50);
        Checks.dueBest(x, 1, 160 * 3 / 10, 16);
        Checks.dueBest(x, 2, 160 * 3 / 10 + 160 * 3 / 10, 16);
        x.setInflow(0, 19, 50);
        // 16 leave 3, of which 1 stays: 20 are there in the next hour
        Checks.dueBest(x, 2, 160 * 3 / 10 + 160 * 4 / 10, 16);
    }

    private static void aPondOf1() {
        WaterCascade x = new WaterCascade();
        x.setPond(0, 1, 10, 0);
        x.setInflow(0, 3, 50);
        // 3 come and 1 of them stays, so 4 are there from the second hour on
        Checks.dueBest(x, 1, 0, 0);
        Checks.dueBest(x, 2, 40, 0);
        // 4 leave nothing, so each third hour is without water enough
        Checks.dueBest(x, 3, 40, 0);
        Checks.dueBest(x, 4, 80, 0);
        Checks.dueBest(x, 6, 120, 0);
    }

    private static void theLeastOfSeveral() {
        WaterCascade x = flat(Rivers.withLevel(40), 1, 0);
        for (int hours = 1; hours <= 6; hours++) {
            Checks.dueBest(x, hours, 0, 0);
        }
        flat(x, 4, 70);
        Checks.dueBest(x, 1, 70 * 18 / 10, 4);
        flat(x, 5, 70);
        Checks.dueBest(x, 1, 70 * 18 / 10, 8);
        WaterCascade y = flat(Rivers.withLevel(40), 8, 70);
        y.setYield(0, 1, 4, 60);
        Checks.dueBest(y, 1, 130 * 18 / 10, 12);
        y.setYield(0, 1, 4, 0);
        y.setYield(0, 1, 8, 60);
        Checks.dueBest(y, 1, 130 * 18 / 10, 16);
    }

    private static void theLeastOfSeveralThatWait() {
        WaterCascade x = Rivers.withLevel(4);
        Checks.dueBest(x, 1, 40, 4);
        // now or later is the same
        Checks.dueBest(x, 2, 40, 0);
        Checks.dueBest(x, 6, 40, 0);
        WaterCascade y = Rivers.withLevel(8);
        Checks.dueBest(y, 1, 88, 8);
        Checks.dueBest(y, 2, 88, 0);
    }

    private static void roundedDownInEachHour() {
        WaterCascade x = flat(new WaterCascade(), 1, 9);
        x.setPond(0, 100, 1, 1);
        x.setInflow(0, 4, 50);
        x.setMinimum(0, 4);
        // 9 * 1 / 10 in each hour, with nothing left for the next one
        Checks.dueBest(x, 6, 0, 4);
        x.setPond(0, 100, 2, 1);
        Checks.dueBest(x, 6, 6 * (9 * 2 / 10), 4);
    }

    private static void ofTheLevelAlone() {
        WaterCascade x = Rivers.withAccounts(0, -3, 11);
        Checks.dueBest(x, 1, 80 * 11 / 10, 8);
        x.order(0, 0, 30);
        x.order(0, 1, 30);
        Checks.dueBest(x, 1, 80 * 11 / 10, 8);
        x.lend(0, 1, 11);
        Checks.dueBest(x, 1, 80 * 11 / 10, 8);
        // the owner with water could let 12 go alone
        Checks.dueBest(Rivers.withAccounts(0, 12, -3), 1, 80 * 11 / 10, 8);
        Checks.dueBest(Rivers.withAccounts(0, -3, 12), 1, 80 * 11 / 10, 8);
    }

    private static void ofPlant0Alone() {
        WaterCascade x = Rivers.withAccounts(1, 100, 100);
        Checks.dueBest(x, 6, 0, 0);
        x.setPond(1, 1, 100, 0);
        x.setInflow(1, 50, 50);
        x.setMinimum(2, 20);
        x.setYield(1, 0, 8, 200);
        x.setInflow(0, 4, 50);
        Checks.dueBest(x, 1, 40, 4);
    }

    /** The class runs no more hours then, but the question is still what plant 0 could make. */
    private static void fromTheHour200On() {
        WaterCascade x = Rivers.FULL.make();
        for (int day = 0; day < 8; day++) {
            x.run(24);
        }
        x.run(3);
        Checks.dueBest(x, 6, 6 * 960, 16);
        x.run(1);
        Checks.due("hour", x.hour(), 200);
        for (int hours = 1; hours <= 6; hours++) {
            Checks.dueBest(x, hours, hours * 960, 16);
        }
    }

    private static void bothWaysAnswerTheSame() {
        for (int level = 0; level <= 200; level += 8) {
            WaterCascade x = Rivers.withLevel(level);
            for (int hours = 1; hours <= 6; hours++) {
                x.setPond(0, 1 + level * hours % 200, hours, 1);
                x.setInflow(0, level * 7 % 51, 50);
                x.setMinimum(0, (level + hours) % 21);
                x.setYield(0, hours % 2, 1 + level / 8 % 8, level);
                Checks.due("bestEnergyByAll(" + hours + ") at level " + level, x.bestEnergyByAll(hours),
                    x.bestEnergy(hours));
            }
        }
    }

    private static void questionsChangeNothing() {
        for (Rivers state : Rivers.values()) {
            WaterCascade x = state.make();
            for (int hours = 1; hours <= 6; hours++) {
                x.bestEnergy(hours);
                x.bestRelease(hours);
                x.bestEnergyByAll(hours);
            }
            Checks.isTrue("a " + state + " river is as before", Tour.of(x).equals(Tour.of(state.make())));
        }
    }
}
