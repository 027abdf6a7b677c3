/** Promises 1 to 6: a new object, and the settings. */
final class SettingsTest {
    private SettingsTest() {
    }

    public static void main(String[] args) {
        promise1StartsEmpty();
        promise1StartSettings();
        promise2SetPond();
        promise2TravelCountsFromNowOn();
        promise2Refuses();
        promise3SetInflow();
        promise3Refuses();
        promise4SetMinimum();
        promise4Refuses();
        promise5Order();
        promise5Refuses();
        promise6SetYield();
        promise6Refuses();
        Checks.end();
    }

    private static void promise1StartsEmpty() {
        WaterCascade x = new WaterCascade();
        Checks.due("hour of a new object", x.hour(), 0);
        for (int plant = 0; plant < 3; plant++) {
            Checks.due("level", x.level(plant), 0);
            Checks.due("spilled", x.spilled(plant), 0);
            Checks.due("missed", x.missed(plant), 0);
            Checks.due("flow", x.flow(plant), 0);
            Checks.due("energy", x.energy(plant), 0);
            for (int owner = 0; owner < 2; owner++) {
                Checks.due("account", x.account(plant, owner), 0);
                Checks.due("travelling", plant == 0 ? 0 : x.travelling(plant, owner), 0);
            }
        }
        for (int owner = 0; owner < 2; owner++) {
            Checks.due("cameIn", x.cameIn(owner), 0);
            Checks.due("gone", x.gone(owner), 0);
            Checks.due("balance", x.balance(owner), 0);
            for (int hour = 0; hour <= 6; hour++) {
                Checks.due("arriving", x.arriving(1, owner, hour) + x.arriving(2, owner, hour), 0);
            }
        }
    }

    private static void promise1StartSettings() {
        WaterCascade x = new WaterCascade();
        for (int plant = 0; plant < 3; plant++) {
            Checks.due("inflow at first", x.setInflow(plant, 50, 50), 0);
            Checks.due("minimum at first", x.setMinimum(plant, 0), 0);
            Checks.due("order at first", x.order(plant, 0, 0), 0);
            Checks.due("order at first", x.order(plant, 1, 0), 0);
            for (int flow = 1; flow <= 8; flow++) {
                Checks.due("yield at first", x.setYield(plant, 0, flow, 10 * flow), 10 * flow);
                Checks.due("yield at first", x.setYield(plant, 1, flow, 10 * flow), 10 * flow);
            }
        }
        x.run(3);
        for (int plant = 0; plant < 3; plant++) {
            Checks.due("the capacity at first keeps", x.level(plant), 100);
        }
        Checks.due("plant 0 spilled", x.spilled(0), 50);
        Checks.due("the travel at first is 1", x.arriving(1, 0, 3), 50);
        x.order(0, 0, 4);
        x.setInflow(0, 0, 0);
        x.run(1);
        Checks.due("the base at first is 10: 40 * (10 + 20) / 10", x.energy(0), 120);
    }

    private static void promise2SetPond() {
        WaterCascade x = new WaterCascade();
        x.setPond(1, 7, 13, 2);
        x.setInflow(1, 9, 100);
        x.order(1, 1, 1);
        x.run(1);
        Checks.due("level at the capacity", x.level(1), 7);
        Checks.due("spilled above it", x.spilled(1), 1);
        Checks.due("energy: 10 * (13 + 9 / 5) / 10", x.energy(1), 14);
        Checks.due("arriving after the travel", x.arriving(2, 0, 2), 1);
        x.setPond(1, 1, 0, 0);
        Checks.due("a smaller capacity spills only when an hour is run", x.level(1), 7);
        x.setPond(2, 200, 100, 5);
        x.setPond(0, 200, 100, 5);
        x.setInflow(0, 50, 0);
        x.run(5);
        Checks.due("level up to 200", x.level(0), 200);
        Checks.due("spilled from 200", x.spilled(0), 50);
        Checks.due("travel 5", x.arriving(1, 1, 10), 50);
    }

    private static void promise2TravelCountsFromNowOn() {
        WaterCascade x = new WaterCascade();
        x.setInflow(0, 3, 100);
        x.order(0, 0, 3);
        x.setPond(0, 100, 10, 4);
        x.run(1);
        x.setPond(0, 100, 10, 1);
        Checks.due("water under way keeps its hour", x.arriving(1, 0, 4), 3);
        Checks.due("and has no other", x.arriving(1, 0, 1), 0);
        x.run(1);
        Checks.due("later water travels by the new travel", x.arriving(1, 0, 2), 3);
        x.run(2);
        Checks.due("water of different travels meets", x.arriving(1, 0, 4), 6);
    }

    private static void promise2Refuses() {
        WaterCascade x = new WaterCascade();
        int[][] wrong = {
            {-1, 1, 0, 0}, {3, 1, 0, 0}, {0, 0, 0, 0}, {0, 201, 0, 0}, {0, 1, -1, 0}, {0, 1, 101, 0}, {0, 1, 0, -1},
            {0, 1, 0, 6}, {Integer.MIN_VALUE, 1, 0, 0}, {0, Integer.MAX_VALUE, 0, 0},
        };
        for (int[] a : wrong) {
            Checks.refusesArgument("setPond" + java.util.Arrays.toString(a), () -> {
                x.setPond(a[0], a[1], a[2], a[3]);
                return 0;
            });
        }
        x.setInflow(0, 50, 0);
        x.run(1);
        Checks.due("a refused setPond sets no capacity", x.level(0), 50);
    }

    private static void promise3SetInflow() {
        WaterCascade x = new WaterCascade();
        Checks.due("setInflow", x.setInflow(2, 50, 33), 0);
        x.run(1);
        Checks.due("33 of 100 of 50, rounded down", x.account(2, 0), 16);
        Checks.due("the rest", x.account(2, 1), 34);
        Checks.due("setInflow returns the inflow before", x.setInflow(2, 7, 0), 50);
        x.run(1);
        Checks.due("a share of 0", x.account(2, 0), 16);
        Checks.due("gives all to owner 1", x.account(2, 1), 41);
        Checks.due("setInflow", x.setInflow(2, 3, 100), 7);
        x.run(1);
        Checks.due("a share of 100", x.account(2, 0), 19);
        Checks.due("gives nothing to owner 1", x.account(2, 1), 41);
        Checks.due("setInflow", x.setInflow(2, 0, 50), 3);
        x.run(1);
        Checks.due("no inflow", x.level(2), 60);
        WaterCascade y = new WaterCascade();
        y.setInflow(0, 50, 99);
        y.setInflow(1, 50, 1);
        y.run(1);
        Checks.due("99 of 100 of 50, rounded down", y.account(0, 0), 49);
        Checks.due("1 of 100 of 50, rounded down", y.account(1, 0), 0);
        Checks.due("the rest of it", y.account(1, 1), 50);
    }

    private static void promise3Refuses() {
        WaterCascade x = new WaterCascade();
        x.setInflow(1, 5, 20);
        Checks.refusesArgument("setInflow(-1, 0, 0)", () -> x.setInflow(-1, 0, 0));
        Checks.refusesArgument("setInflow(3, 0, 0)", () -> x.setInflow(3, 0, 0));
        Checks.refusesArgument("setInflow(1, -1, 0)", () -> x.setInflow(1, -1, 0));
        Checks.refusesArgument("setInflow(1, 51, 0)", () -> x.setInflow(1, 51, 0));
        Checks.refusesArgument("setInflow(1, 0, -1)", () -> x.setInflow(1, 0, -1));
        Checks.refusesArgument("setInflow(1, 0, 101)", () -> x.setInflow(1, 0, 101));
        x.run(1);
        Checks.due("a refused setInflow keeps the share", x.account(1, 0), 1);
        Checks.due("and the inflow", x.setInflow(1, 0, 0), 5);
    }

    private static void promise4SetMinimum() {
        WaterCascade x = new WaterCascade();
        x.setInflow(0, 50, 40);
        Checks.due("setMinimum", x.setMinimum(0, 20), 0);
        x.run(1);
        Checks.due("owner 1 has more, and lets go the minimum", x.arriving(1, 1, 1), 20);
        Checks.due("owner 0 lets go nothing", x.arriving(1, 0, 1), 0);
        Checks.due("setMinimum returns that before", x.setMinimum(0, 6), 20);
        x.order(0, 0, 4);
        x.setInflow(0, 50, 100);
        x.run(1);
        Checks.due("owner 0 has more, and lets go what is missing too", x.arriving(1, 0, 2), 6);
        x.order(0, 1, 2);
        x.run(1);
        Checks.due("nothing is missing at the minimum itself", x.arriving(1, 0, 3) - x.spilled(0), 4);
        Checks.due("owner 1's order", x.arriving(1, 1, 3), 2);
        WaterCascade y = new WaterCascade();
        y.setInflow(1, 10, 50);
        y.setMinimum(1, 3);
        y.run(1);
        Checks.due("with equal accounts owner 0 does", y.account(1, 0), 2);
        Checks.due("and owner 1 does not", y.account(1, 1), 5);
        y.order(1, 1, 2);
        y.run(1);
        Checks.due("1 alone is missing: owner 1 has more by then", y.account(1, 1), 5 + 5 - 2 - 1);
        Checks.due("and owner 0 lets nothing go", y.account(1, 0), 2 + 5);
    }

    private static void promise4Refuses() {
        WaterCascade x = new WaterCascade();
        x.setMinimum(2, 4);
        Checks.refusesArgument("setMinimum(-1, 0)", () -> x.setMinimum(-1, 0));
        Checks.refusesArgument("setMinimum(3, 0)", () -> x.setMinimum(3, 0));
        Checks.refusesArgument("setMinimum(2, -1)", () -> x.setMinimum(2, -1));
        Checks.refusesArgument("setMinimum(2, 21)", () -> x.setMinimum(2, 21));
        Checks.due("a refused setMinimum sets nothing", x.setMinimum(2, 0), 4);
    }

    private static void promise5Order() {
        WaterCascade x = new WaterCascade();
        Checks.due("order", x.order(0, 0, 30), 0);
        Checks.due("order", x.order(0, 1, 7), 0);
        Checks.due("order returns that before", x.order(0, 0, 2), 30);
        x.setInflow(0, 40, 50);
        x.run(1);
        Checks.due("owner 0's order", x.arriving(1, 0, 1), 2);
        Checks.due("owner 1's order", x.arriving(1, 1, 1), 7);
        x.run(1);
        Checks.due("orders stand", x.travelling(1, 1), 7);
        promise5Cuts();
    }

    private static void promise5Cuts() {
        WaterCascade x = new WaterCascade();
        x.setInflow(0, 10, 50);
        x.order(0, 0, 8);
        x.order(0, 1, 8);
        x.run(1);
        Checks.due("5 - 8 twice: owner 1's part is cut first", x.arriving(1, 1, 1), 2);
        Checks.due("and owner 0's is not", x.arriving(1, 0, 1), 8);
        Checks.due("owner 0 lets go more than the account", x.account(0, 0), -3);
        WaterCascade y = new WaterCascade();
        y.setInflow(0, 10, 30);
        y.order(0, 0, 9);
        y.order(0, 1, 9);
        y.run(1);
        Checks.due("3 - 9 is less than 7 - 9: owner 0's part is cut", y.arriving(1, 0, 1), 1);
        Checks.due("and owner 1's is not", y.arriving(1, 1, 1), 9);
        WaterCascade z = new WaterCascade();
        z.setInflow(0, 10, 0);
        z.order(0, 0, 2);
        z.order(0, 1, 30);
        z.run(1);
        Checks.due("10 - 30 is less than 0 - 2", z.arriving(1, 1, 1), 8);
        z.setInflow(0, 0, 0);
        z.order(0, 1, 0);
        z.run(1);
        Checks.due("nothing to let go", z.level(0), 0);
        Checks.due("accounts stay", z.account(0, 0), -2);
        WaterCascade w = new WaterCascade();
        w.setInflow(0, 5, 100);
        w.order(0, 0, 20);
        w.order(0, 1, 30);
        w.run(1);
        Checks.due("a part is cut as far as it goes", w.arriving(1, 1, 1), 0);
        Checks.due("then the other one's", w.arriving(1, 0, 1), 5);
    }

    private static void promise5Refuses() {
        WaterCascade x = new WaterCascade();
        x.order(1, 1, 3);
        Checks.refusesArgument("order(-1, 0, 0)", () -> x.order(-1, 0, 0));
        Checks.refusesArgument("order(3, 0, 0)", () -> x.order(3, 0, 0));
        Checks.refusesArgument("order(1, -1, 0)", () -> x.order(1, -1, 0));
        Checks.refusesArgument("order(1, 2, 0)", () -> x.order(1, 2, 0));
        Checks.refusesArgument("order(1, 1, -1)", () -> x.order(1, 1, -1));
        Checks.refusesArgument("order(1, 1, 31)", () -> x.order(1, 1, 31));
        Checks.due("a refused order sets nothing", x.order(1, 1, 0), 3);
    }

    private static void promise6SetYield() {
        WaterCascade x = new WaterCascade();
        Checks.due("setYield", x.setYield(1, 0, 8, 200), 80);
        Checks.due("setYield returns that before", x.setYield(1, 0, 8, 0), 200);
        Checks.due("each turbine has its own", x.setYield(1, 1, 8, 1), 80);
        Checks.due("each plant has its own", x.setYield(2, 0, 8, 1), 80);
        Checks.due("each flow has its own", x.setYield(1, 0, 1, 99), 10);
        Checks.due("the mix is by the yields", x.mix(1, 1), 99);
        x.setYield(1, 0, 1, 0);
        Checks.due("a mix falls with the yields", x.mix(1, 1), 10);
    }

    private static void promise6Refuses() {
        WaterCascade x = new WaterCascade();
        int[][] wrong = {
            {-1, 0, 1, 0}, {3, 0, 1, 0}, {0, -1, 1, 0}, {0, 2, 1, 0}, {0, 0, 0, 0}, {0, 0, 9, 0}, {0, 0, -1, 0},
            {0, 0, 1, -1}, {0, 0, 1, 201},
        };
        for (int[] a : wrong) {
            Checks.refusesArgument("setYield" + java.util.Arrays.toString(a),
                () -> x.setYield(a[0], a[1], a[2], a[3]));
        }
        Checks.due("a refused setYield sets nothing", x.setYield(0, 0, 1, 0), 10);
    }
}
