/** Promises 10 to 21: what is. */
final class StateTest {
    private StateTest() {
    }

    public static void main(String[] args) {
        promises10And11AccountAndLevel();
        promise12Travelling();
        promise13Arriving();
        promises14To16BalanceOfOwners();
        promise17Spilled();
        promise18Missed();
        promise19Flow();
        promise20Energy();
        promise21Mix();
        refusals();
        Checks.end();
    }

    private static void promises10And11AccountAndLevel() {
        WaterCascade x = new WaterCascade();
        x.setInflow(0, 20, 30);
        x.setInflow(2, 7, 0);
        x.order(0, 0, 9);
        x.run(1);
        Checks.due("account below 0", x.account(0, 0), -3);
        Checks.due("account of the other owner", x.account(0, 1), 14);
        Checks.due("level is the sum", x.level(0), 11);
        Checks.due("each plant has its own accounts", x.account(2, 1), 7);
        Checks.due("and its own level", x.level(2), 7);
        Checks.due("plant 1 is empty", x.level(1), 0);
    }

    private static void promise12Travelling() {
        WaterCascade x = new WaterCascade();
        x.setPond(0, 100, 10, 3);
        x.setInflow(0, 10, 50);
        x.order(0, 0, 2);
        x.order(0, 1, 1);
        x.run(2);
        Checks.due("travelling of two hours", x.travelling(1, 0), 4);
        Checks.due("travelling of the other owner", x.travelling(1, 1), 2);
        Checks.due("nothing travels to plant 2", x.travelling(2, 0), 0);
        x.run(2);
        Checks.due("what has arrived travels no more", x.travelling(1, 0), 6);
        Checks.due("it is in the account", x.account(1, 0), 2);
        x.setPond(0, 100, 10, 0);
        x.run(1);
        Checks.due("with travel 0 nothing more is under way", x.travelling(1, 0), 4);
    }

    private static void promise13Arriving() {
        WaterCascade x = new WaterCascade();
        x.setPond(1, 100, 10, 5);
        x.setInflow(1, 10, 50);
        x.order(1, 0, 3);
        x.run(1);
        for (int hour = 0; hour <= 300; hour++) {
            Checks.due("arriving(2, 0, " + hour + ")", x.arriving(2, 0, hour), hour == 5 ? 3 : 0);
        }
        for (int hour = 0; hour <= 12; hour++) {
            Checks.due("arriving(2, 1, " + hour + ")", x.arriving(2, 1, hour), 0);
            Checks.due("arriving(1, 0, " + hour + ")", x.arriving(1, 0, hour), 0);
        }
        x.run(4);
        Checks.due("before it arrives", x.arriving(2, 0, 5), 3);
        Checks.due("the latest hour", x.arriving(2, 0, 9), 3);
        Checks.due("the hour behind it", x.arriving(2, 0, 10), 0);
        x.run(1);
        Checks.due("when it has arrived it is not under way", x.arriving(2, 0, 5), 0);
        Checks.due("it has come", x.account(2, 0), 3);
        arrivingBeyondTheLastHour();
    }

    private static void arrivingBeyondTheLastHour() {
        WaterCascade x = new WaterCascade();
        x.setPond(0, 100, 10, 5);
        x.setInflow(0, 2, 100);
        x.order(0, 0, 2);
        x.run(8);
        for (int day = 0; day < 8; day++) {
            x.run(24);
        }
        Checks.due("of the hour 200", x.arriving(1, 0, 200), 2);
        Checks.due("of the hour 204", x.arriving(1, 0, 204), 2);
        Checks.due("of the hour 205", x.arriving(1, 0, 205), 0);
        Checks.due("of the hour 199", x.arriving(1, 0, 199), 0);
        Checks.due("all of it", x.travelling(1, 0), 10);
    }

    private static void promises14To16BalanceOfOwners() {
        WaterCascade x = new WaterCascade();
        x.setInflow(0, 11, 50);
        x.setInflow(2, 9, 50);
        x.order(2, 0, 3);
        x.order(0, 1, 2);
        x.run(1);
        Checks.due("cameIn of owner 0, at all plants", x.cameIn(0), 9);
        Checks.due("cameIn of owner 1", x.cameIn(1), 11);
        Checks.due("gone below plant 2", x.gone(0), 3);
        Checks.due("gone of owner 1", x.gone(1), 0);
        Checks.due("balance", x.balance(0), 6);
        x.lend(0, 1, 4);
        Checks.due("balance, less what was lent", x.balance(1), 7);
        Checks.due("balance, plus what was lent to the owner", x.balance(0), 10);
        Checks.due("lending brings nothing in", x.cameIn(0), 9);
        x.setPond(2, 1, 10, 5);
        x.run(2);
        Checks.due("arrived water does not come in again", x.cameIn(1), 33);
        Checks.due("spilled water is gone too", x.gone(0) + x.gone(1), 60 - allInPondsAndUnderWay(x));
        for (int owner = 0; owner < 2; owner++) {
            int kept = x.account(0, owner) + x.account(1, owner) + x.account(2, owner);
            int underWay = x.travelling(1, owner) + x.travelling(2, owner);
            Checks.due("so much is in the accounts and under way", x.balance(owner), kept + underWay);
        }
    }

    private static int allInPondsAndUnderWay(WaterCascade x) {
        int all = x.level(0) + x.level(1) + x.level(2);
        for (int owner = 0; owner < 2; owner++) {
            all += x.travelling(1, owner) + x.travelling(2, owner);
        }
        return all;
    }

    private static void promise17Spilled() {
        WaterCascade x = new WaterCascade();
        x.setPond(1, 20, 10, 1);
        x.setInflow(1, 20, 50);
        x.run(1);
        Checks.due("at the capacity nothing is spilled", x.spilled(1), 0);
        x.setInflow(1, 3, 50);
        x.run(2);
        Checks.due("spilled so far", x.spilled(1), 6);
        Checks.due("of that plant", x.spilled(0) + x.spilled(2), 0);
        x.order(1, 0, 3);
        x.run(1);
        Checks.due("what is let go is not spilled", x.spilled(1), 6);
    }

    private static void promise18Missed() {
        WaterCascade x = new WaterCascade();
        x.setMinimum(0, 5);
        x.setInflow(0, 4, 50);
        x.run(2);
        Checks.due("missed in two hours", x.missed(0), 2);
        x.setInflow(0, 5, 50);
        x.run(1);
        Checks.due("the very minimum is not missed", x.missed(0), 2);
        Checks.due("of that plant", x.missed(1), 0);
        x.setInflow(0, 0, 50);
        x.setMinimum(0, 0);
        x.run(1);
        Checks.due("no minimum is not missed", x.missed(0), 2);
        x.setMinimum(0, 20);
        Checks.due("the minimum as it was then counts", x.missed(0), 2);
        x.setPond(0, 1, 10, 1);
        x.setInflow(0, 30, 0);
        x.run(1);
        Checks.due("with water enough nothing is missed", x.missed(0), 2);
        x.setInflow(0, 19, 0);
        x.setMinimum(0, 20);
        x.run(1);
        Checks.due("19 and the 1 that was left are enough", x.missed(0), 2);
        x.run(1);
        Checks.due("19 alone are not", x.missed(0), 3);
    }

    private static void promise19Flow() {
        WaterCascade x = new WaterCascade();
        x.setInflow(0, 50, 50);
        x.order(0, 0, 8);
        x.order(0, 1, 7);
        x.run(1);
        Checks.due("flow of both", x.flow(0), 15);
        Checks.due("flow of another plant", x.flow(2), 0);
        x.order(0, 1, 9);
        x.run(1);
        Checks.due("at most 16", x.flow(0), 16);
        Checks.due("though all is let go", x.travelling(1, 1), 9);
        x.order(0, 0, 0);
        x.order(0, 1, 0);
        x.setPond(0, 5, 10, 1);
        Checks.due("flow of the hour run latest", x.flow(0), 16);
        x.run(1);
        Checks.due("what is spilled does not flow", x.flow(0), 0);
    }

    private static void promise20Energy() {
        WaterCascade x = new WaterCascade();
        x.setPond(2, 100, 0, 1);
        x.setInflow(2, 14, 50);
        x.order(2, 0, 1);
        x.setYield(2, 0, 1, 17);
        x.run(1);
        Checks.due("17 * (14 / 5) / 10", x.energy(2), 3);
        x.run(1);
        Checks.due("17 * (27 / 5) / 10 more", x.energy(2), 11);
        Checks.due("of that plant", x.energy(0) + x.energy(1), 0);
        x.setPond(2, 100, 50, 1);
        Checks.due("energy made stays", x.energy(2), 11);
        WaterCascade y = new WaterCascade();
        y.setPond(0, 1, 0, 0);
        y.setInflow(0, 50, 50);
        y.setInflow(1, 3, 50);
        y.order(1, 0, 4);
        y.run(1);
        Checks.due("the head is by the level with what arrived, came in, and is not yet let go or spilled",
            y.energy(1), 40 * (10 + 52 / 5) / 10);
    }

    private static void promise21Mix() {
        WaterCascade x = new WaterCascade();
        for (int flow = 0; flow <= 16; flow++) {
            Checks.due("mix at first", x.mix(1, flow), 10 * flow);
        }
        x.setYield(1, 0, 3, 90);
        x.setYield(1, 1, 2, 100);
        Checks.due("one turbine", x.mix(1, 2), 100);
        Checks.due("no flow", x.mix(1, 0), 0);
        Checks.due("best of both", x.mix(1, 3), 110);
        Checks.due("less than the flow, too", x.mix(1, 5), 190);
        Checks.due("most", x.mix(1, 16), 190);
        Checks.due("of that plant", x.mix(0, 5), 50);
        for (int flow = 1; flow <= 8; flow++) {
            x.setYield(2, 0, flow, 0);
            x.setYield(2, 1, flow, flow == 1 ? 200 : 0);
        }
        Checks.due("all yields are 0 but one", x.mix(2, 16), 200);
        Checks.due("mix of nothing", x.mix(2, 0), 0);
    }

    private static void refusals() {
        WaterCascade x = new WaterCascade();
        for (int wrong : new int[] {-1, 3, Integer.MIN_VALUE, Integer.MAX_VALUE}) {
            Checks.refusesArgument("account(" + wrong + ", 0)", () -> x.account(wrong, 0));
            Checks.refusesArgument("level(" + wrong + ")", () -> x.level(wrong));
            Checks.refusesArgument("travelling(" + wrong + ", 0)", () -> x.travelling(wrong, 0));
            Checks.refusesArgument("arriving(" + wrong + ", 0, 0)", () -> x.arriving(wrong, 0, 0));
            Checks.refusesArgument("spilled(" + wrong + ")", () -> x.spilled(wrong));
            Checks.refusesArgument("missed(" + wrong + ")", () -> x.missed(wrong));
            Checks.refusesArgument("flow(" + wrong + ")", () -> x.flow(wrong));
            Checks.refusesArgument("energy(" + wrong + ")", () -> x.energy(wrong));
            Checks.refusesArgument("mix(" + wrong + ", 0)", () -> x.mix(wrong, 0));
        }
        Checks.refusesArgument("travelling(0, 0)", () -> x.travelling(0, 0));
        Checks.refusesArgument("arriving(0, 0, 0)", () -> x.arriving(0, 0, 0));
        Checks.refusesArgument("arriving(1, 0, -1)", () -> x.arriving(1, 0, -1));
        Checks.refusesArgument("arriving(1, 0, 301)", () -> x.arriving(1, 0, 301));
        Checks.refusesArgument("mix(0, -1)", () -> x.mix(0, -1));
        Checks.refusesArgument("mix(0, 17)", () -> x.mix(0, 17));
        for (int wrong : new int[] {-1, 2, Integer.MIN_VALUE, Integer.MAX_VALUE}) {
            Checks.refusesArgument("account(0, " + wrong + ")", () -> x.account(0, wrong));
            Checks.refusesArgument("travelling(1, " + wrong + ")", () -> x.travelling(1, wrong));
            Checks.refusesArgument("arriving(1, " + wrong + ", 0)", () -> x.arriving(1, wrong, 0));
            Checks.refusesArgument("cameIn(" + wrong + ")", () -> x.cameIn(wrong));
            Checks.refusesArgument("gone(" + wrong + ")", () -> x.gone(wrong));
            Checks.refusesArgument("balance(" + wrong + ")", () -> x.balance(wrong));
        }
    }
}
