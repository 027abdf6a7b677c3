/** Promises 7 to 9: the hours that are run, and water that is lent. */
final class HoursTest {
    private HoursTest() {
    }

    public static void main(String[] args) {
        promise7Run();
        promise7PlantByPlant();
        promise7Spills();
        promise7Refuses();
        promise7RefusesBeyond200();
        promise8Hour();
        promise9Lend();
        promise9Refuses();
        Checks.end();
    }

    private static void promise7Run() {
        WaterCascade x = new WaterCascade();
        Checks.due("run(1)", x.run(1), 1);
        Checks.due("run(24)", x.run(24), 25);
        WaterCascade once = new WaterCascade();
        WaterCascade often = new WaterCascade();
        once.setInflow(0, 17, 30);
        often.setInflow(0, 17, 30);
        once.order(0, 1, 9);
        often.order(0, 1, 9);
        once.run(7);
        for (int hour = 0; hour < 7; hour++) {
            often.run(1);
        }
        Checks.due("hours run at once are the same as hours run one by one", once.energy(0), often.energy(0));
        Checks.due("and leave the same", once.account(1, 1), often.account(1, 1));
    }

    private static void promise7PlantByPlant() {
        WaterCascade x = new WaterCascade();
        x.setPond(0, 100, 10, 0);
        x.setPond(1, 100, 10, 0);
        x.setInflow(0, 12, 50);
        for (int plant = 0; plant < 3; plant++) {
            x.order(plant, 0, 6);
            x.order(plant, 1, 6);
        }
        x.run(1);
        Checks.due("with travel 0 water passes all plants in an hour", x.gone(0) + x.gone(1), 12);
        Checks.due("and has flowed through each", x.flow(0) + x.flow(1) + x.flow(2), 36);
        WaterCascade y = new WaterCascade();
        y.setPond(0, 100, 10, 5);
        y.setInflow(0, 1, 100);
        y.order(0, 0, 1);
        y.run(5);
        Checks.due("with travel 5 nothing has arrived after 5 hours", y.level(1), 0);
        y.run(1);
        Checks.due("and the first water has after 6", y.level(1), 1);
    }

    private static void promise7Spills() {
        WaterCascade x = new WaterCascade();
        x.setPond(0, 10, 10, 1);
        x.setInflow(0, 30, 50);
        x.run(1);
        Checks.due("with equal accounts owner 0 spills all of it", x.account(0, 0), -5);
        Checks.due("and owner 1 nothing", x.account(0, 1), 15);
        Checks.due("what is spilled travels", x.arriving(1, 0, 1), 20);
        x.run(1);
        Checks.due("then owner 1 has more and spills", x.account(0, 1), 0);
        Checks.due("owner 0 keeps", x.account(0, 0), 10);
        x.setInflow(0, 6, 0);
        x.order(0, 1, 6);
        x.run(1);
        Checks.due("what is let go is not spilled", x.spilled(0), 50);
        Checks.due("the level at the capacity stays", x.level(0), 10);
        x.setMinimum(0, 8);
        x.setInflow(0, 20, 0);
        x.run(1);
        Checks.due("let go and spilled water travel together", x.arriving(1, 1, 4), 20);
        Checks.due("the accounts behind what is let go tell who spills", x.account(0, 1), 0);
    }

    private static void promise7Refuses() {
        WaterCascade x = new WaterCascade();
        for (int hours : new int[] {0, -1, 25, Integer.MAX_VALUE, Integer.MIN_VALUE}) {
            Checks.refusesArgument("run(" + hours + ")", () -> x.run(hours));
        }
        Checks.due("a refused run runs nothing", x.hour(), 0);
    }

    private static void promise7RefusesBeyond200() {
        WaterCascade x = new WaterCascade();
        x.setInflow(2, 1, 100);
        for (int day = 0; day < 8; day++) {
            x.run(24);
        }
        Checks.refusesState("run(9) at 192", () -> x.run(9));
        Checks.due("a refused run runs no hour", x.hour(), 192);
        Checks.due("and nothing comes in", x.cameIn(0), 192);
        Checks.due("run(8) at 192", x.run(8), 200);
        Checks.refusesState("run(1) at 200", () -> x.run(1));
        Checks.refusesArgument("run(25) at 200", () -> x.run(25));
        Checks.refusesArgument("run(0) at 200", () -> x.run(0));
    }

    private static void promise8Hour() {
        WaterCascade x = new WaterCascade();
        Checks.due("hour at first", x.hour(), 0);
        x.run(3);
        Checks.due("hour after run(3)", x.hour(), 3);
        x.run(1);
        Checks.due("hour after one more", x.hour(), 4);
    }

    private static void promise9Lend() {
        WaterCascade x = new WaterCascade();
        x.setInflow(1, 40, 25);
        x.run(1);
        Checks.due("lend returns the account then", x.lend(1, 1, 10), 20);
        Checks.due("the other account grows", x.account(1, 0), 20);
        Checks.due("lend all", x.lend(1, 0, 20), 0);
        Checks.due("the account falls", x.account(1, 0), 0);
        Checks.due("the other one has all", x.account(1, 1), 40);
        Checks.due("the level stays", x.level(1), 40);
        x.setPond(1, 200, 10, 1);
        x.setInflow(1, 50, 0);
        x.run(2);
        Checks.due("lend 1", x.lend(1, 1, 1), 139);
        Checks.due("lend 100", x.lend(1, 1, 100), 39);
        Checks.due("all that was lent counts", x.balance(1), 30 - 10 + 20 + 100 - 1 - 100);
        Checks.due("for the other one too", x.balance(0), 10 + 10 - 20 + 1 + 100);
    }

    private static void promise9Refuses() {
        WaterCascade x = new WaterCascade();
        x.setInflow(0, 20, 50);
        x.run(1);
        Checks.refusesArgument("lend(-1, 0, 1)", () -> x.lend(-1, 0, 1));
        Checks.refusesArgument("lend(3, 0, 1)", () -> x.lend(3, 0, 1));
        Checks.refusesArgument("lend(0, -1, 1)", () -> x.lend(0, -1, 1));
        Checks.refusesArgument("lend(0, 2, 1)", () -> x.lend(0, 2, 1));
        Checks.refusesArgument("lend(0, 0, 0)", () -> x.lend(0, 0, 0));
        Checks.refusesArgument("lend(0, 0, 101)", () -> x.lend(0, 0, 101));
        Checks.refusesState("lend(0, 0, 11)", () -> x.lend(0, 0, 11));
        Checks.refusesState("lend(1, 0, 1)", () -> x.lend(1, 0, 1));
        Checks.refusesArgument("lend(1, 0, 101) of an empty account", () -> x.lend(1, 0, 101));
        Checks.due("a refused lend lends nothing", x.account(0, 0), 10);
        Checks.due("and counts nothing", x.balance(0), 10);
        Checks.due("the very account may be lent", x.lend(0, 0, 10), 0);
    }
}
