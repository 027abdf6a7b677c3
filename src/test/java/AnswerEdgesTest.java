/** The edges of what can be asked, and of lending (promises 9 to 21). */
final class AnswerEdgesTest {
    private AnswerEdgesTest() {
    }

    public static void main(String[] args) {
        questionsChangeNothing();
        lendAnswersTheAccountThen();
        lendLeavesLevelAndWater();
        lendAtOnePlantAlone();
        accountOfOneOwnerMayBeAll();
        accountMayBeBelow0();
        levelIsTheSum();
        levelOfAnEmptyPond();
        levelAboveALaterCapacity();
        travellingOfTheLongestWay();
        travellingOfNoWay();
        travellingOfEachOwnerAndPlant();
        arrivingInTheHourThatComesNext();
        arrivingInTheHourRunLatest();
        arrivingInTheFarthestHour();
        arrivingAtTheEndsOfTheHours();
        arrivingIsEmptyInAllOtherHours();
        arrivingInOneHourAlone();
        cameInOfAllPlants();
        cameInCountsWhatIsSpilled();
        cameInIsNoArrival();
        goneOfAnEmptyPond();
        goneCountsPartsAndSpill();
        goneIsOfPlant2Alone();
        balanceOfNothing();
        balanceMayBeBelow0();
        balanceCountsBothSidesOfALoan();
        balanceIsInTheAccountsAndUnderWay();
        spilledOnlyAboveTheCapacity();
        spilledGrows();
        missedOnlyBelowTheMinimum();
        missedWithNoMinimum();
        missedByTheMinimumAsItWasThen();
        missedCountsHours();
        flowOfTheHourRunLatest();
        mixOfNoFlow();
        mixJustTheFlow();
        mixOfLessThanTheFlow();
        mixOfOneTurbineAtMost8();
        mixOfThisPlant();
        mixOfTheMost();
        mixFollowsEachYield();
        Checks.end();
    }

    private static void questionsChangeNothing() {
        for (Rivers state : Rivers.values()) {
            WaterCascade x = state.make();
            Tour.ofQuestions(x);
            Checks.isTrue("a " + state + " river is as before", Tour.of(x).equals(Tour.of(state.make())));
        }
    }

    private static void lendAnswersTheAccountThen() {
        WaterCascade x = Rivers.withAccounts(2, 30, 101);
        Checks.due("owner 0 lends 1", x.lend(2, 0, 1), 29);
        Checks.due("owner 1 lends 100", x.lend(2, 1, 100), 2);
        Checks.due("owner 0 has", x.account(2, 0), 129);
        Checks.due("owner 0 lends 29", x.lend(2, 0, 29), 100);
        Checks.due("owner 0 lends all", x.lend(2, 0, 100), 0);
        Checks.due("owner 1 has all", x.account(2, 1), 131);
    }

    private static void lendLeavesLevelAndWater() {
        WaterCascade x = Rivers.withAccounts(1, 60, 40);
        x.lend(1, 0, 60);
        Checks.due("level", x.level(1), 100);
        Checks.due("cameIn", x.cameIn(0), 60);
        Checks.due("gone", x.gone(0), 0);
        Checks.due("spilled", x.spilled(1), 0);
        x.setPond(1, 50, 10, 1);
        x.lend(1, 1, 100);
        Checks.due("nothing is spilled by lending", x.level(1), 100);
    }

    private static void lendAtOnePlantAlone() {
        WaterCascade x = Rivers.FULL.make();
        x.lend(1, 0, 100);
        for (int plant = 0; plant < 3; plant++) {
            Checks.due("owner 0's at " + plant, x.account(plant, 0), plant == 1 ? 0 : 100);
            Checks.due("owner 1's at " + plant, x.account(plant, 1), plant == 1 ? 200 : 100);
        }
    }

    private static void accountOfOneOwnerMayBeAll() {
        Checks.due("all is owner 0's", Rivers.withAccounts(0, 200, 0).account(0, 0), 200);
        Checks.due("all is owner 1's", Rivers.withAccounts(2, 0, 200).account(2, 1), 200);
    }

    private static void accountMayBeBelow0() {
        Checks.due("owner 0's", Rivers.withAccounts(0, -1, 1).account(0, 0), -1);
        Checks.due("owner 1's", Rivers.withAccounts(1, 30, -30).account(1, 1), -30);
        WaterCascade x = Rivers.withAccounts(2, -30, 90);
        x.order(2, 0, 30);
        x.run(2);
        Checks.due("far below 0", x.account(2, 0), -90);
        Checks.due("as far as there is water of the other one", x.level(2), 0);
        x.run(2);
        Checks.due("and no farther", x.account(2, 0), -90);
    }

    private static void levelIsTheSum() {
        Checks.due("level", Rivers.withAccounts(0, 13, 29).level(0), 42);
        Checks.due("level with an account below 0", Rivers.withAccounts(1, -7, 29).level(1), 22);
        Checks.due("level with an account below 0", Rivers.withAccounts(2, 29, -7).level(2), 22);
    }

    private static void levelOfAnEmptyPond() {
        WaterCascade x = new WaterCascade();
        for (int plant = 0; plant < 3; plant++) {
            x.order(plant, 0, 30);
            x.order(plant, 1, 30);
            x.setMinimum(plant, 20);
        }
        x.run(24);
        for (int plant = 0; plant < 3; plant++) {
            Checks.due("level", x.level(plant), 0);
            Checks.due("account", x.account(plant, 0), 0);
        }
        Checks.due("level", Rivers.withAccounts(1, 8, -8).level(1), 0);
    }

    private static void levelAboveALaterCapacity() {
        WaterCascade x = Rivers.withAccounts(0, 100, 100);
        x.setPond(0, 1, 0, 0);
        Checks.due("level", x.level(0), 200);
        x.run(1);
        Checks.due("behind an hour", x.level(0), 1);
    }

    private static WaterCascade flowing(int plant, int travel, int hours) {
        WaterCascade x = new WaterCascade();
        x.setPond(plant, 100, 10, travel);
        x.setInflow(plant, 10, 40);
        x.order(plant, 0, 4);
        x.order(plant, 1, 6);
        x.run(hours);
        return x;
    }

    private static void travellingOfTheLongestWay() {
        for (int hours = 1; hours <= 8; hours++) {
            WaterCascade x = flowing(0, 5, hours);
            int underWay = Math.min(hours, 5);
            Checks.due("owner 0's of " + hours + " hours", x.travelling(1, 0), 4 * underWay);
            Checks.due("owner 1's of " + hours + " hours", x.travelling(1, 1), 6 * underWay);
            Checks.due("the rest has come", x.level(1), 10 * (hours - underWay));
        }
    }

    private static void travellingOfNoWay() {
        WaterCascade x = flowing(1, 0, 3);
        Checks.due("nothing", x.travelling(2, 0), 0);
        Checks.due("nothing", x.travelling(2, 1), 0);
        Checks.due("all has come", x.level(2), 30);
        Checks.due("the latest hour's", flowing(1, 1, 3).travelling(2, 1), 6);
    }

    private static void travellingOfEachOwnerAndPlant() {
        WaterCascade x = flowing(0, 2, 2);
        Checks.due("owner 0's to plant 1", x.travelling(1, 0), 8);
        Checks.due("owner 1's to plant 1", x.travelling(1, 1), 12);
        Checks.due("none to plant 2", x.travelling(2, 0) + x.travelling(2, 1), 0);
        WaterCascade y = flowing(1, 2, 2);
        Checks.due("owner 0's to plant 2", y.travelling(2, 0), 8);
        Checks.due("owner 1's to plant 2", y.travelling(2, 1), 12);
        Checks.due("none to plant 1", y.travelling(1, 0) + y.travelling(1, 1), 0);
        WaterCascade z = flowing(2, 2, 2);
        Checks.due("none from plant 2", z.travelling(1, 1) + z.travelling(2, 1), 0);
    }

    private static void arrivingInTheHourThatComesNext() {
        WaterCascade x = flowing(0, 1, 1);
        Checks.due("owner 0's in the hour 1", x.arriving(1, 0, 1), 4);
        Checks.due("owner 1's in the hour 1", x.arriving(1, 1, 1), 6);
        Checks.due("none in the hour 2", x.arriving(1, 0, 2), 0);
        Checks.due("none at plant 2", x.arriving(2, 0, 1), 0);
    }

    private static void arrivingInTheHourRunLatest() {
        WaterCascade x = flowing(0, 1, 3);
        Checks.due("what came is not under way", x.arriving(1, 0, 2), 0);
        Checks.due("what came before neither", x.arriving(1, 0, 1), 0);
        Checks.due("what comes is", x.arriving(1, 0, 3), 4);
        WaterCascade y = flowing(0, 0, 3);
        Checks.due("with travel 0 nothing is", y.arriving(1, 0, 2), 0);
        Checks.due("with travel 0 nothing will", y.arriving(1, 0, 3), 0);
    }

    private static void arrivingInTheFarthestHour() {
        WaterCascade x = flowing(1, 5, 7);
        Checks.due("the hour 6 and 5 more", x.arriving(2, 1, 11), 6);
        Checks.due("none in the hour behind it", x.arriving(2, 1, 12), 0);
        Checks.due("the hour 2 and 5 more", x.arriving(2, 1, 7), 6);
        Checks.due("none in the hour run latest", x.arriving(2, 1, 6), 0);
    }

    private static void arrivingAtTheEndsOfTheHours() {
        WaterCascade x = flowing(0, 5, 1);
        Checks.due("hour 0", x.arriving(1, 0, 0), 0);
        Checks.due("hour 5", x.arriving(1, 0, 5), 4);
        Checks.due("hour 300", x.arriving(1, 0, 300), 0);
        for (int day = 0; day < 8; day++) {
            x.run(24);
        }
        x.run(7);
        Checks.due("hour 199", x.arriving(1, 0, 199), 0);
        Checks.due("hour 200, that is never run", x.arriving(1, 0, 200), 4);
        Checks.due("hour 204", x.arriving(1, 0, 204), 4);
        Checks.due("hour 205", x.arriving(1, 0, 205), 0);
        Checks.due("hour 206", x.arriving(1, 0, 206), 0);
        Checks.due("hour 300", x.arriving(1, 0, 300), 0);
        Checks.due("hour 0", x.arriving(1, 0, 0), 0);
    }

    private static void arrivingIsEmptyInAllOtherHours() {
        WaterCascade x = flowing(1, 3, 20);
        for (int hour = 0; hour <= 300; hour++) {
            Checks.due("hour " + hour, x.arriving(2, 1, hour), hour >= 20 && hour <= 22 ? 6 : 0);
        }
    }

    /** Water under way in one hour is not told for another one, whatever lies between them. */
    private static void arrivingInOneHourAlone() {
        for (int travel = 1; travel <= 5; travel++) {
            WaterCascade x = Rivers.withAccounts(0, 3, 0);
            x.setPond(0, 200, 10, travel);
            x.order(0, 0, 3);
            x.run(1);
            int due = travel + 1;
            for (int hour = 0; hour <= 40; hour++) {
                Checks.due("travel " + travel + ", hour " + hour, x.arriving(1, 0, hour), hour == due ? 3 : 0);
            }
        }
    }

    private static void cameInOfAllPlants() {
        WaterCascade x = new WaterCascade();
        x.setInflow(0, 3, 100);
        x.setInflow(1, 10, 30);
        x.setInflow(2, 50, 2);
        x.run(1);
        Checks.due("3 + 3 + 1", x.cameIn(0), 7);
        Checks.due("0 + 7 + 49", x.cameIn(1), 56);
        x.run(24);
        Checks.due("25 hours", x.cameIn(0), 175);
        Checks.due("25 hours", x.cameIn(1), 1400);
    }

    private static void cameInCountsWhatIsSpilled() {
        WaterCascade x = new WaterCascade();
        x.setPond(2, 1, 10, 0);
        x.setInflow(2, 50, 100);
        x.run(3);
        Checks.due("all of it", x.cameIn(0), 150);
    }

    private static void cameInIsNoArrival() {
        WaterCascade x = flowing(0, 0, 5);
        Checks.due("owner 0's inflow alone", x.cameIn(0), 20);
        Checks.due("owner 1's inflow alone", x.cameIn(1), 30);
    }

    private static void goneOfAnEmptyPond() {
        WaterCascade x = new WaterCascade();
        x.order(2, 0, 30);
        x.order(2, 1, 30);
        x.run(5);
        Checks.due("owner 0's", x.gone(0), 0);
        Checks.due("owner 1's", x.gone(1), 0);
    }

    private static void goneCountsPartsAndSpill() {
        WaterCascade x = Rivers.withAccounts(2, 20, 10);
        x.setPond(2, 15, 10, 1);
        x.order(2, 0, 2);
        x.order(2, 1, 3);
        x.run(1);
        Checks.due("2 let go, 10 spilled", x.gone(0), 12);
        Checks.due("3 let go", x.gone(1), 3);
        x.run(1);
        Checks.due("2 let go", x.gone(0), 14);
        Checks.due("3 let go", x.gone(1), 6);
    }

    private static void goneIsOfPlant2Alone() {
        WaterCascade x = flowing(0, 0, 5);
        Checks.due("not from plant 0", x.gone(0) + x.gone(1), 0);
        WaterCascade y = flowing(1, 0, 5);
        Checks.due("not from plant 1", y.gone(0) + y.gone(1), 0);
        WaterCascade z = flowing(2, 0, 5);
        Checks.due("owner 0's from plant 2", z.gone(0), 20);
        Checks.due("owner 1's from plant 2", z.gone(1), 30);
    }

    private static void balanceOfNothing() {
        WaterCascade x = new WaterCascade();
        x.run(24);
        Checks.due("owner 0's", x.balance(0), 0);
        Checks.due("owner 1's", x.balance(1), 0);
        WaterCascade y = flowing(2, 0, 24);
        Checks.due("all that came in is gone", y.balance(0), 0);
    }

    private static void balanceMayBeBelow0() {
        WaterCascade x = Rivers.withAccounts(2, 0, 25);
        x.order(2, 0, 25);
        x.run(1);
        Checks.due("owner 0's", x.balance(0), -25);
        Checks.due("owner 1's", x.balance(1), 25);
        x.lend(2, 1, 25);
        Checks.due("owner 0's is lent", x.balance(0), 0);
        Checks.due("owner 1's is lent", x.balance(1), 0);
    }

    private static void balanceCountsBothSidesOfALoan() {
        WaterCascade x = Rivers.withAccounts(0, 40, 40);
        x.lend(0, 0, 1);
        Checks.due("less what was lent", x.balance(0), 39);
        Checks.due("plus what was lent to the owner", x.balance(1), 41);
        x.lend(0, 1, 41);
        Checks.due("less what was lent", x.balance(1), 0);
        Checks.due("plus what was lent to the owner", x.balance(0), 80);
        x.run(1);
        Checks.due("an hour lends nothing", x.balance(0), 80);
    }

    private static void balanceIsInTheAccountsAndUnderWay() {
        for (Rivers state : Rivers.values()) {
            WaterCascade x = state.make();
            for (int owner = 0; owner < 2; owner++) {
                int kept = x.account(0, owner) + x.account(1, owner) + x.account(2, owner);
                int underWay = x.travelling(1, owner) + x.travelling(2, owner);
                Checks.due("balance of " + owner + ", " + state, x.balance(owner), kept + underWay);
            }
        }
    }

    private static void spilledOnlyAboveTheCapacity() {
        for (int plant = 0; plant < 3; plant++) {
            WaterCascade x = Rivers.withAccounts(plant, 30, 20);
            x.setPond(plant, 50, 10, 1);
            x.run(5);
            Checks.due("50 in a pond of 50", x.spilled(plant), 0);
            x.setPond(plant, 49, 10, 1);
            x.run(5);
            Checks.due("50 in a pond of 49", x.spilled(plant), 1);
        }
    }

    private static void spilledGrows() {
        WaterCascade x = new WaterCascade();
        x.setPond(1, 1, 10, 1);
        x.setInflow(1, 50, 50);
        x.run(24);
        Checks.due("24 * 50 less 1", x.spilled(1), 1199);
        Checks.due("of plant 0", x.spilled(0), 0);
        Checks.due("what comes to plant 2 is spilled there", x.spilled(2), 23 * 50 - 1 - 100);
    }

    private static int missedWith(int inflow, int minimum, int orders) {
        WaterCascade x = new WaterCascade();
        x.setInflow(1, inflow, 100);
        x.setMinimum(1, minimum);
        x.order(1, 0, orders);
        x.run(1);
        return x.missed(1);
    }

    private static void missedOnlyBelowTheMinimum() {
        Checks.due("20 of 20", missedWith(20, 20, 0), 0);
        Checks.due("19 of 20", missedWith(19, 20, 0), 1);
        Checks.due("19 of 20 though 30 are ordered", missedWith(19, 20, 30), 1);
        Checks.due("20 of 20 though 30 are ordered", missedWith(20, 20, 30), 0);
        Checks.due("1 of 1", missedWith(1, 1, 0), 0);
        Checks.due("0 of 1", missedWith(0, 1, 0), 1);
        Checks.due("0 of 20", missedWith(0, 20, 0), 1);
    }

    private static void missedWithNoMinimum() {
        Checks.due("0 of 0", missedWith(0, 0, 0), 0);
        Checks.due("0 of 0 though 30 are ordered", missedWith(0, 0, 30), 0);
    }

    private static void missedByTheMinimumAsItWasThen() {
        WaterCascade x = new WaterCascade();
        x.setMinimum(0, 1);
        x.run(3);
        x.setMinimum(0, 0);
        Checks.due("a lower minimum takes nothing back", x.missed(0), 3);
        x.run(3);
        Checks.due("and is not missed", x.missed(0), 3);
        x.setMinimum(0, 20);
        Checks.due("a higher minimum adds nothing", x.missed(0), 3);
        x.run(1);
        Checks.due("but is missed from then on", x.missed(0), 4);
    }

    private static void missedCountsHours() {
        WaterCascade x = new WaterCascade();
        x.setMinimum(2, 20);
        x.run(24);
        Checks.due("each hour is one, whatever is missing", x.missed(2), 24);
        Checks.due("of plant 0", x.missed(0), 0);
        Checks.due("of plant 1", x.missed(1), 0);
        for (int day = 0; day < 7; day++) {
            x.run(24);
        }
        x.run(8);
        Checks.due("each of all hours", x.missed(2), 200);
    }

    private static void flowOfTheHourRunLatest() {
        for (int plant = 0; plant < 3; plant++) {
            WaterCascade x = Rivers.withAccounts(plant, 33, 0);
            Checks.due("0 with no order", x.flow(plant), 0);
            x.order(plant, 0, 16);
            Checks.due("an order alone changes nothing", x.flow(plant), 0);
            x.run(1);
            Checks.due("16", x.flow(plant), 16);
            x.order(plant, 0, 1);
            x.run(1);
            Checks.due("1", x.flow(plant), 1);
            x.order(plant, 0, 30);
            x.run(1);
            Checks.due("16 of the 16 that are left", x.flow(plant), 16);
            x.run(1);
            Checks.due("0 of an empty pond", x.flow(plant), 0);
        }
    }

    /** Plant 1 with the yields of both turbines for the flows 0 to 8. */
    private static WaterCascade withYields(int[] first, int[] second) {
        WaterCascade x = new WaterCascade();
        for (int flow = 1; flow <= 8; flow++) {
            x.setYield(1, 0, flow, first[flow]);
            x.setYield(1, 1, flow, second[flow]);
        }
        return x;
    }

    private static void dueMixes(WaterCascade x, int... due) {
        for (int flow = 0; flow <= 16; flow++) {
            Checks.due("mix for " + flow, x.mix(1, flow), due[flow]);
        }
    }

    private static void mixOfNoFlow() {
        int[] most = {0, 200, 200, 200, 200, 200, 200, 200, 200};
        Checks.due("the yields for 0 are 0", withYields(most, most).mix(1, 0), 0);
    }

    private static void mixJustTheFlow() {
        int[] first = {0, 0, 0, 50, 0, 0, 0, 0, 0};
        int[] second = {0, 0, 0, 0, 0, 70, 0, 0, 0};
        dueMixes(withYields(first, second), 0, 0, 0, 50, 50, 70, 70, 70, 120, 120, 120, 120, 120, 120, 120, 120, 120);
        dueMixes(withYields(second, first), 0, 0, 0, 50, 50, 70, 70, 70, 120, 120, 120, 120, 120, 120, 120, 120, 120);
    }

    private static void mixOfLessThanTheFlow() {
        int[] first = {0, 100, 0, 0, 0, 0, 0, 0, 99};
        int[] second = {0, 0, 0, 0, 0, 0, 0, 0, 0};
        dueMixes(withYields(first, second), 0, 100, 100, 100, 100, 100, 100, 100, 100, 100, 100, 100, 100, 100, 100,
            100, 100);
    }

    private static void mixOfOneTurbineAtMost8() {
        int[] rising = {0, 1, 2, 3, 4, 5, 6, 7, 8};
        int[] none = new int[9];
        dueMixes(withYields(rising, none), 0, 1, 2, 3, 4, 5, 6, 7, 8, 8, 8, 8, 8, 8, 8, 8, 8);
        dueMixes(withYields(none, rising), 0, 1, 2, 3, 4, 5, 6, 7, 8, 8, 8, 8, 8, 8, 8, 8, 8);
    }

    private static void mixOfTheMost() {
        int[] last = {0, 0, 0, 0, 0, 0, 0, 0, 200};
        dueMixes(withYields(last, last), 0, 0, 0, 0, 0, 0, 0, 0, 200, 200, 200, 200, 200, 200, 200, 200, 400);
        int[] first = {0, 200, 0, 0, 0, 0, 0, 0, 0};
        dueMixes(withYields(first, first), 0, 200, 400, 400, 400, 400, 400, 400, 400, 400, 400, 400, 400, 400, 400,
            400, 400);
    }

    private static void mixOfThisPlant() {
        WaterCascade x = withYields(new int[9], new int[9]);
        Checks.due("of plant 1", x.mix(1, 16), 0);
        Checks.due("of plant 0", x.mix(0, 16), 160);
        Checks.due("of plant 2", x.mix(2, 16), 160);
    }

    private static void mixFollowsEachYield() {
        WaterCascade x = new WaterCascade();
        x.setYield(1, 0, 1, 200);
        Checks.due("a yield rises", x.mix(1, 2), 210);
        x.setYield(1, 0, 1, 0);
        Checks.due("and falls again", x.mix(1, 1), 10);
        x.setYield(1, 1, 1, 0);
        Checks.due("and the other one's", x.mix(1, 1), 0);
        Checks.due("for 2 there is still one", x.mix(1, 2), 20);
    }
}
