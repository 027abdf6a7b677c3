/** The edges of what is at first, and of what each setting does at the ends of its range (promises 1 to 6, 'Terms'). */
final class SettingEdgesTest {
    private static final int FARTHEST_HOUR = 300;

    private SettingEdgesTest() {
    }

    public static void main(String[] args) {
        firstCapacityIs100();
        firstBaseIs10();
        firstMinimumIs0();
        firstInflowIs0();
        firstTravelIs1();
        firstOrdersAre0();
        firstYieldsAre10ForEach();
        objectsShareNothing();
        capacityOf1AndOf200();
        smallerCapacityWaitsForTheHour();
        baseOf0AndOf100();
        travelOf0To5();
        travelCountsFromNowOn();
        travelOfWaterThatIsSpilled();
        belowPlant2TheWaterIsGone();
        shareIsRoundedDown();
        shareAtItsEnds();
        inflowIsKeptAndReturned();
        minimumIsKeptAndReturned();
        minimumOfOnePlantAlone();
        orderIsKeptAndReturned();
        yieldIsKeptAndReturned();
        Checks.end();
    }

    private static void firstCapacityIs100() {
        for (int plant = 0; plant < 3; plant++) {
            WaterCascade x = new WaterCascade();
            x.setInflow(plant, 50, 100);
            x.run(2);
            Checks.due("100 in the pond", x.level(plant), 100);
            Checks.due("nothing is spilled at 100", x.spilled(plant), 0);
            x.setInflow(plant, 1, 100);
            x.run(1);
            Checks.due("101 are one too much", x.spilled(plant), 1);
            Checks.due("100 in the pond again", x.level(plant), 100);
        }
    }

    private static void firstBaseIs10() {
        for (int plant = 0; plant < 3; plant++) {
            WaterCascade x = new WaterCascade();
            x.setInflow(plant, 1, 100);
            x.order(plant, 0, 1);
            x.run(1);
            Checks.due("10 * (10 + 0) / 10", x.energy(plant), 10);
        }
    }

    private static void firstMinimumIs0() {
        WaterCascade x = new WaterCascade();
        for (int plant = 0; plant < 3; plant++) {
            x.setInflow(plant, 9, 50);
        }
        x.run(1);
        for (int plant = 0; plant < 3; plant++) {
            Checks.due("nothing is let go", x.level(plant), 9);
            Checks.due("nothing is missed", x.missed(plant), 0);
            Checks.due("the minimum at first", x.setMinimum(plant, 20), 0);
        }
    }

    private static void firstInflowIs0() {
        WaterCascade x = new WaterCascade();
        x.run(24);
        for (int plant = 0; plant < 3; plant++) {
            Checks.due("nothing comes in at first", x.level(plant), 0);
            Checks.due("the inflow at first", x.setInflow(plant, 50, 100), 0);
        }
        Checks.due("for owner 0", x.cameIn(0), 0);
        Checks.due("for owner 1", x.cameIn(1), 0);
    }

    private static void firstTravelIs1() {
        for (int plant = 0; plant < 2; plant++) {
            WaterCascade x = new WaterCascade();
            x.setInflow(plant, 1, 0);
            x.order(plant, 1, 1);
            x.run(1);
            Checks.due("not in the same hour", x.level(plant + 1), 0);
            Checks.due("in the next one", x.arriving(plant + 1, 1, 1), 1);
            x.run(1);
            Checks.due("it has come", x.level(plant + 1), 1);
        }
    }

    private static void firstOrdersAre0() {
        WaterCascade x = new WaterCascade();
        for (int plant = 0; plant < 3; plant++) {
            x.setInflow(plant, 10, 50);
        }
        x.run(1);
        for (int plant = 0; plant < 3; plant++) {
            Checks.due("nothing is let go", x.level(plant), 10);
            Checks.due("owner 0's order at first", x.order(plant, 0, 30), 0);
            Checks.due("owner 1's order at first", x.order(plant, 1, 30), 0);
        }
    }

    private static void firstYieldsAre10ForEach() {
        WaterCascade x = new WaterCascade();
        for (int plant = 0; plant < 3; plant++) {
            for (int turbine = 0; turbine < 2; turbine++) {
                Checks.due("the yield for 1 at first", x.setYield(plant, turbine, 1, 10), 10);
                Checks.due("the yield for 8 at first", x.setYield(plant, turbine, 8, 80), 80);
            }
            Checks.due("the mix for 0 at first", x.mix(plant, 0), 0);
            Checks.due("the mix for 1 at first", x.mix(plant, 1), 10);
            Checks.due("the mix for 16 at first", x.mix(plant, 16), 160);
        }
    }

    private static void objectsShareNothing() {
        WaterCascade busy = Rivers.BUSY.make();
        WaterCascade x = new WaterCascade();
        Checks.due("a new object begins at the hour 0", x.hour(), 0);
        Checks.isTrue("a new object is as one that was made before",
            Tour.of(x).equals(Tour.of(Rivers.NEW.make())));
        Checks.isTrue("and an old one stays as it was", Tour.of(busy).equals(Tour.of(Rivers.BUSY.make())));
    }

    private static void capacityOf1AndOf200() {
        WaterCascade x = new WaterCascade();
        x.setPond(0, 1, 10, 5);
        x.setPond(2, 200, 10, 5);
        x.setInflow(0, 1, 100);
        x.setInflow(2, 50, 100);
        x.run(1);
        Checks.due("1 in a pond of 1", x.level(0), 1);
        Checks.due("is not spilled", x.spilled(0), 0);
        x.run(3);
        Checks.due("1 in a pond of 1", x.level(0), 1);
        Checks.due("each later 1 is spilled", x.spilled(0), 3);
        Checks.due("200 in a pond of 200", x.level(2), 200);
        Checks.due("are not spilled", x.spilled(2), 0);
        x.run(1);
        Checks.due("200 in a pond of 200", x.level(2), 200);
        Checks.due("what comes then is spilled", x.spilled(2), 50);
    }

    private static void smallerCapacityWaitsForTheHour() {
        WaterCascade x = Rivers.withAccounts(1, 40, 60);
        x.setPond(1, 99, 10, 1);
        Checks.due("the level may be above the capacity till then", x.level(1), 100);
        Checks.due("nothing is spilled till then", x.spilled(1), 0);
        x.run(1);
        Checks.due("the level", x.level(1), 99);
        Checks.due("1 is spilled", x.spilled(1), 1);
        x.setPond(1, 100, 10, 1);
        x.run(1);
        Checks.due("a greater capacity spills nothing", x.spilled(1), 1);
    }

    private static int energyOfAnHour(int base, int level) {
        WaterCascade x = Rivers.withAccounts(0, level, 0);
        x.setPond(0, 200, base, 1);
        x.order(0, 0, 1);
        x.run(1);
        return x.energy(0);
    }

    private static void baseOf0AndOf100() {
        Checks.due("base 0, head 0", energyOfAnHour(0, 4), 0);
        Checks.due("base 0, head 1", energyOfAnHour(0, 5), 1);
        Checks.due("base 0, head 1", energyOfAnHour(0, 9), 1);
        Checks.due("base 0, head 2", energyOfAnHour(0, 10), 2);
        Checks.due("base 0, head 39", energyOfAnHour(0, 199), 39);
        Checks.due("base 0, head 40", energyOfAnHour(0, 200), 40);
        Checks.due("base 100, head 100", energyOfAnHour(100, 4), 100);
        Checks.due("base 100, head 101", energyOfAnHour(100, 5), 101);
        Checks.due("base 100, head 140", energyOfAnHour(100, 200), 140);
        Checks.due("base 1, head 1", energyOfAnHour(1, 1), 1);
    }

    /** Water of one hour alone, so that each hour tells where it is. */
    private static void travelOf0To5() {
        for (int plant = 0; plant < 2; plant++) {
            for (int travel = 0; travel <= 5; travel++) {
                String name = "plant " + plant + ", travel " + travel + ": ";
                WaterCascade x = Rivers.withAccounts(plant, 0, 7);
                int start = x.hour();
                x.setPond(plant, 200, 10, travel);
                x.order(plant, 1, 7);
                for (int later = 0; later <= travel; later++) {
                    Checks.due(name + "not yet there", x.account(plant + 1, 1), 0);
                    Checks.due(name + "under way", x.travelling(plant + 1, 1), later == 0 ? 0 : 7);
                    Checks.due(name + "its hour", x.arriving(plant + 1, 1, start + travel), later == 0 ? 0 : 7);
                    x.run(1);
                }
                Checks.due(name + "there", x.account(plant + 1, 1), 7);
                Checks.due(name + "not the other owner's", x.account(plant + 1, 0), 0);
                Checks.due(name + "no more under way", x.travelling(plant + 1, 1), 0);
                x.run(6);
                Checks.due(name + "it comes but once", x.level(plant + 1), 7);
            }
        }
    }

    private static void travelCountsFromNowOn() {
        WaterCascade x = new WaterCascade();
        x.setInflow(0, 1, 100);
        x.order(0, 0, 1);
        for (int travel = 5; travel >= 0; travel--) {
            x.setPond(0, 100, 10, travel);
            x.run(1);
            Checks.due("all is still under way", x.level(1), travel == 0 ? 6 : 0);
            Checks.due("to the hour 5", x.arriving(1, 0, 5), travel == 0 ? 0 : 6 - travel);
        }
        WaterCascade y = new WaterCascade();
        y.setInflow(1, 1, 0);
        y.order(1, 1, 1);
        for (int travel = 0; travel <= 5; travel++) {
            y.setPond(1, 100, 10, travel);
            y.run(1);
        }
        Checks.due("0 + 0, 1 + 1 and 2 + 2 have come", y.level(2), 3);
        for (int hour = 0; hour <= FARTHEST_HOUR; hour++) {
            boolean due = hour == 6 || hour == 8 || hour == 10;
            Checks.due("arriving in " + hour, y.arriving(2, 1, hour), due ? 1 : 0);
        }
    }

    private static void travelOfWaterThatIsSpilled() {
        WaterCascade x = Rivers.withAccounts(0, 6, 30);
        int next = x.hour();
        x.setPond(0, 10, 10, 5);
        x.order(0, 1, 4);
        x.run(1);
        Checks.due("4 let go and 22 spilled arrive together", x.arriving(1, 1, next + 5), 26);
        WaterCascade y = Rivers.withAccounts(1, 20, 3);
        y.setPond(1, 10, 10, 0);
        y.run(1);
        Checks.due("spilled water comes in the same hour, too", y.account(2, 0), 13);
        WaterCascade z = Rivers.withAccounts(2, 20, 3);
        z.setPond(2, 10, 10, 5);
        z.run(1);
        Checks.due("and is gone below plant 2", z.gone(0), 13);
    }

    private static void belowPlant2TheWaterIsGone() {
        for (int travel = 0; travel <= 5; travel++) {
            WaterCascade x = Rivers.withAccounts(2, 5, 5);
            x.setPond(2, 200, 10, travel);
            x.order(2, 0, 2);
            x.order(2, 1, 3);
            x.run(1);
            Checks.due("gone in the hour, travel " + travel, x.gone(0), 2);
            Checks.due("gone in the hour, travel " + travel, x.gone(1), 3);
            Checks.due("nothing is under way to plant 2", x.travelling(2, 1), 0);
            Checks.due("nor to plant 1", x.travelling(1, 1), 0);
        }
    }

    private static void dueShare(int inflow, int share, int of0, int of1) {
        for (int plant = 0; plant < 3; plant++) {
            WaterCascade x = new WaterCascade();
            x.setInflow(plant, inflow, share);
            x.run(1);
            Checks.due("owner 0's part of " + inflow + " by " + share, x.account(plant, 0), of0);
            Checks.due("owner 1's part of " + inflow + " by " + share, x.account(plant, 1), of1);
            Checks.due("it came in for owner 0", x.cameIn(0), of0);
            Checks.due("it came in for owner 1", x.cameIn(1), of1);
        }
    }

    private static void shareIsRoundedDown() {
        dueShare(1, 50, 0, 1);
        dueShare(2, 50, 1, 1);
        dueShare(49, 50, 24, 25);
        dueShare(1, 99, 0, 1);
        dueShare(50, 99, 49, 1);
        dueShare(50, 1, 0, 50);
        dueShare(50, 2, 1, 49);
        dueShare(33, 3, 0, 33);
        dueShare(34, 3, 1, 33);
        dueShare(3, 33, 0, 3);
        dueShare(3, 34, 1, 2);
    }

    private static void shareAtItsEnds() {
        dueShare(50, 0, 0, 50);
        dueShare(50, 100, 50, 0);
        dueShare(1, 0, 0, 1);
        dueShare(1, 100, 1, 0);
        dueShare(0, 0, 0, 0);
        dueShare(0, 50, 0, 0);
        dueShare(0, 100, 0, 0);
    }

    private static void inflowIsKeptAndReturned() {
        WaterCascade x = new WaterCascade();
        for (int inflow = 0; inflow <= 50; inflow++) {
            x.setInflow(0, inflow, 100);
            Checks.due("the inflow before", x.setInflow(0, inflow, 0), inflow);
        }
        Checks.due("of plant 1 it is still 0", x.setInflow(1, 50, 100), 0);
        Checks.due("of plant 2 it is still 0", x.setInflow(2, 0, 100), 0);
        Checks.due("50 before", x.setInflow(0, 0, 0), 50);
        Checks.due("0 before", x.setInflow(0, 1, 0), 0);
    }

    private static void minimumIsKeptAndReturned() {
        WaterCascade x = new WaterCascade();
        for (int flow = 0; flow <= 20; flow++) {
            x.setMinimum(2, flow);
            Checks.due("the minimum before", x.setMinimum(2, flow), flow);
        }
        Checks.due("of plant 0 it is still 0", x.setMinimum(0, 20), 0);
        Checks.due("of plant 1 it is still 0", x.setMinimum(1, 0), 0);
        Checks.due("20 before", x.setMinimum(2, 0), 20);
        Checks.due("0 before", x.setMinimum(2, 1), 0);
    }

    private static void minimumOfOnePlantAlone() {
        WaterCascade x = new WaterCascade();
        x.setMinimum(1, 20);
        for (int plant = 0; plant < 3; plant++) {
            x.setInflow(plant, 30, 0);
        }
        x.run(1);
        Checks.due("plant 0 lets nothing go", x.level(0), 30);
        Checks.due("plant 1 lets 20 go", x.level(1), 10);
        Checks.due("plant 2 lets nothing go", x.level(2), 30);
    }

    private static void orderIsKeptAndReturned() {
        WaterCascade x = new WaterCascade();
        for (int flow = 0; flow <= 30; flow++) {
            x.order(1, 0, flow);
            x.order(1, 1, 30 - flow);
            Checks.due("owner 0's order before", x.order(1, 0, flow), flow);
            Checks.due("owner 1's order before", x.order(1, 1, 30 - flow), 30 - flow);
        }
        Checks.due("at plant 0 it is still 0", x.order(0, 0, 30), 0);
        Checks.due("at plant 2 it is still 0", x.order(2, 1, 30), 0);
        x.run(24);
        Checks.due("it stands", x.order(1, 0, 0), 30);
        Checks.due("0 before", x.order(1, 1, 1), 0);
    }

    private static void yieldIsKeptAndReturned() {
        WaterCascade x = new WaterCascade();
        for (int power = 0; power <= 200; power++) {
            x.setYield(1, 1, 8, power);
            Checks.due("the yield before", x.setYield(1, 1, 8, power), power);
        }
        for (int turbine = 0; turbine < 2; turbine++) {
            for (int flow = 1; flow <= 8; flow++) {
                int due = turbine == 1 && flow == 8 ? 200 : 10 * flow;
                Checks.due("each yield is its own", x.setYield(1, turbine, flow, flow), due);
            }
        }
        for (int flow = 1; flow <= 8; flow++) {
            Checks.due("they are kept", x.setYield(1, 0, flow, 0), flow);
            Checks.due("of both turbines", x.setYield(1, 1, flow, 200), flow);
        }
    }
}
