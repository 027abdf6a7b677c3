/** The edges of an hour at a plant: the parts, the minimum flow, the cut, the flow and the spill ('Terms'). */
final class HourEdgesTest {
    private HourEdgesTest() {
    }

    public static void main(String[] args) {
        partsAreTheOrders();
        minimumIsReached();
        minimumIsMissedByOne();
        minimumFallsOnTheGreaterAccount();
        minimumFallsOnOwner0IfBothAreTheSame();
        minimumGoesByTheAccountWithItsInflow();
        minimumGoesByTheAccountNotByWhatIsLeft();
        minimumWithAnAccountBelow0();
        minimumAtItsEnds();
        minimumIsKeptWhileThereIsWater();
        minimumIsCutToTheLevel();
        partsJustTheLevel();
        partsOneAboveTheLevel();
        cutFallsOnTheOneWithLess();
        cutFallsOnOwner1IfBothAreTheSame();
        cutGoesByTheAccountLessThePart();
        cutJustAsFarAsItGoes();
        cutOneFartherThanItGoes();
        cutOfAPartOfZero();
        cutOfAnEmptyPond();
        accountBelow0ForOneOfThem();
        flowAtMost16();
        levelJustTheCapacity();
        levelOneAboveTheCapacity();
        spillFallsOnTheGreaterAccount();
        spillFallsOnOwner0IfBothAreTheSame();
        spillGoesByTheAccountsBehindTheParts();
        spillerSpillsAllOfIt();
        capacityAtItsEnds();
        Checks.end();
    }

    private static void partsAreTheOrders() {
        HourCase.of("no orders", 8, 9).letsGo(0, 0);
        HourCase.of("both order", 8, 9).orders(3, 4).letsGo(3, 4);
        HourCase.of("owner 0 alone", 8, 9).orders(5, 0).letsGo(5, 0);
        HourCase.of("owner 1 alone", 8, 9).orders(0, 6).letsGo(0, 6);
        HourCase.of("the inflow may be let go in its hour", 0, 0).inflow(7, 0).orders(7, 0).letsGo(7, 0);
        HourCase.of("the most of both", 70, 80).orders(30, 30).letsGo(30, 30);
    }

    private static void minimumIsReached() {
        HourCase.of("just the minimum", 10, 20).orders(2, 3).minimum(5).letsGo(2, 3);
        HourCase.of("one above the minimum", 10, 20).orders(3, 3).minimum(5).letsGo(3, 3);
        HourCase.of("by owner 0 alone", 10, 20).orders(5, 0).minimum(5).letsGo(5, 0);
        HourCase.of("by owner 1 alone", 20, 10).orders(0, 5).minimum(5).letsGo(0, 5);
    }

    private static void minimumIsMissedByOne() {
        HourCase.of("one is missing, owner 1 has more", 10, 20).orders(2, 3).minimum(6).letsGo(2, 4);
        HourCase.of("one is missing, owner 0 has more", 20, 10).orders(2, 3).minimum(6).letsGo(3, 3);
    }

    private static void minimumFallsOnTheGreaterAccount() {
        HourCase.of("greater by 1", 16, 15).orders(1, 1).minimum(7).letsGo(6, 1);
        HourCase.of("less by 1", 15, 16).orders(1, 1).minimum(7).letsGo(1, 6);
    }

    private static void minimumFallsOnOwner0IfBothAreTheSame() {
        HourCase.of("both the same", 15, 15).orders(1, 1).minimum(7).letsGo(6, 1);
        HourCase.of("both the same, and owner 0 orders more", 15, 15).orders(4, 0).minimum(7).letsGo(7, 0);
        HourCase.of("both the same, and owner 1 orders more", 15, 15).orders(0, 4).minimum(7).letsGo(3, 4);
    }

    private static void minimumGoesByTheAccountWithItsInflow() {
        HourCase.of("owner 1 catches up", 15, 14).inflow(1, 1).minimum(3).letsGo(3, 0);
        HourCase.of("owner 1 comes to have more", 15, 14).inflow(2, 1).minimum(3).letsGo(0, 3);
        HourCase.of("owner 0 catches up", 14, 15).inflow(1, 0).minimum(3).letsGo(3, 0);
        HourCase.of("owner 0 is still behind", 13, 15).inflow(1, 0).minimum(3).letsGo(0, 3);
    }

    private static void minimumGoesByTheAccountNotByWhatIsLeft() {
        HourCase.of("10 is greater than 9, though 2 is left of it", 10, 9).orders(8, 0).minimum(10).letsGo(10, 0);
        HourCase.of("10 is greater than 9, though 2 is left of it", 9, 10).orders(0, 8).minimum(10).letsGo(0, 10);
    }

    private static void minimumWithAnAccountBelow0() {
        HourCase.of("owner 0 is below 0", -3, 12).minimum(4).letsGo(0, 4);
        HourCase.of("owner 1 is below 0", 12, -3).minimum(4).letsGo(4, 0);
    }

    private static void minimumAtItsEnds() {
        HourCase.of("a minimum of 0", 9, 9).letsGo(0, 0);
        HourCase.of("a minimum of 1", 9, 9).minimum(1).letsGo(1, 0);
        HourCase.of("a minimum of 20", 30, 31).minimum(20).letsGo(0, 20);
        HourCase.of("a minimum of 20 that orders reach", 30, 31).orders(20, 0).minimum(20).letsGo(20, 0);
        HourCase.of("a minimum of 20 that orders miss by one", 30, 31).orders(19, 0).minimum(20).letsGo(19, 1);
    }

    private static void minimumIsKeptWhileThereIsWater() {
        HourCase.of("just water enough", 0, 5).minimum(5).letsGo(0, 5);
        HourCase.of("just water enough, of both", 2, 3).minimum(5).letsGo(0, 5);
        HourCase.of("one too little", 0, 4).minimum(5).letsGo(0, 4);
        HourCase.of("all too little", 0, 0).minimum(5).letsGo(0, 0);
        HourCase.of("the inflow is the last that is needed", 0, 4).inflow(1, 1).minimum(5).letsGo(0, 5);
    }

    private static void minimumIsCutToTheLevel() {
        HourCase.of("3 - 20 is less than 2", 3, 2).minimum(20).letsGo(5, 0);
        HourCase.of("2 - 20 is less than 2", 2, 2).minimum(20).letsGo(4, 0);
        HourCase.of("owner 1 lets go what is missing, and is cut", 4, 5).orders(3, 0).minimum(12).letsGo(3, 6);
    }

    private static void partsJustTheLevel() {
        HourCase.of("just the level", 5, 5).orders(5, 5).letsGo(5, 5);
        HourCase.of("just the level, owner 0 beyond the account", 5, 5).orders(6, 4).letsGo(6, 4);
        HourCase.of("just the level, owner 1 beyond the account", 5, 5).orders(0, 10).letsGo(0, 10);
        HourCase.of("one below the level", 5, 5).orders(6, 3).letsGo(6, 3);
    }

    private static void partsOneAboveTheLevel() {
        HourCase.of("one too much, owner 0 has less left", 5, 5).orders(6, 5).letsGo(5, 5);
        HourCase.of("one too much, owner 1 has less left", 5, 5).orders(5, 6).letsGo(5, 5);
        HourCase.of("one too much by owner 0 alone", 5, 5).orders(11, 0).letsGo(10, 0);
        HourCase.of("one too much by owner 1 alone", 5, 5).orders(0, 11).letsGo(0, 10);
    }

    private static void cutFallsOnTheOneWithLess() {
        HourCase.of("5 - 7 is less than 6 - 7", 5, 6).orders(7, 7).letsGo(4, 7);
        HourCase.of("5 - 7 is less than 6 - 7", 6, 5).orders(7, 7).letsGo(7, 4);
        HourCase.of("6 - 8 is less than 6 - 7", 6, 6).orders(8, 7).letsGo(5, 7);
        HourCase.of("6 - 8 is less than 6 - 7", 6, 6).orders(7, 8).letsGo(7, 5);
    }

    private static void cutFallsOnOwner1IfBothAreTheSame() {
        HourCase.of("5 - 6 both", 5, 5).orders(6, 6).letsGo(6, 4);
        HourCase.of("4 - 6 and 5 - 7", 4, 5).orders(6, 7).letsGo(6, 3);
        HourCase.of("5 - 7 and 4 - 6", 5, 4).orders(7, 6).letsGo(7, 2);
    }

    private static void cutGoesByTheAccountLessThePart() {
        HourCase.of("9 - 30 is less than 1 - 2", 9, 1).orders(30, 2).letsGo(8, 2);
        HourCase.of("9 - 30 is less than 1 - 2", 1, 9).orders(2, 30).letsGo(2, 8);
        HourCase.of("the inflow is in the account", 5, 5).inflow(1, 0).orders(7, 7).letsGo(7, 4);
        HourCase.of("an account below 0 with a small part", -3, 10).orders(2, 20).letsGo(2, 5);
        HourCase.of("an account below 0 with a small part", 10, -3).orders(20, 2).letsGo(5, 2);
    }

    private static void cutJustAsFarAsItGoes() {
        HourCase.of("4 are too much, and owner 0's part", 0, 5).orders(4, 5).letsGo(0, 5);
        HourCase.of("4 are too much, and owner 1's part", 5, 0).orders(5, 4).letsGo(5, 0);
        HourCase.of("3 are too much of 4", 0, 5).orders(4, 4).letsGo(1, 4);
    }

    private static void cutOneFartherThanItGoes() {
        HourCase.of("5 are too much, owner 0's part is 4", 0, 5).orders(4, 6).letsGo(0, 5);
        HourCase.of("5 are too much, owner 1's part is 4", 5, 0).orders(6, 4).letsGo(5, 0);
        HourCase.of("owner 1's part is 4, if both are the same", 2, 0).orders(6, 4).letsGo(2, 0);
    }

    private static void cutOfAPartOfZero() {
        HourCase.of("owner 0 has less left, but no part", -5, 10).orders(0, 12).letsGo(0, 5);
        HourCase.of("owner 1 has less left, but no part", 10, -5).orders(12, 0).letsGo(5, 0);
    }

    private static void cutOfAnEmptyPond() {
        HourCase.of("an empty pond", 0, 0).orders(30, 30).letsGo(0, 0);
        HourCase.of("an empty pond with an account below 0", -5, 5).orders(3, 4).letsGo(0, 0);
        HourCase.of("an empty pond with an account below 0", 5, -5).orders(4, 3).minimum(20).letsGo(0, 0);
        HourCase.of("1 in the pond, of owner 1", 0, 1).orders(1, 1).letsGo(0, 1);
        HourCase.of("1 in the pond, of owner 0", 1, 0).orders(1, 1).letsGo(1, 0);
    }

    private static void accountBelow0ForOneOfThem() {
        HourCase.of("owner 0 lets go all of owner 1's water", 0, 30).orders(30, 0).letsGo(30, 0);
        HourCase.of("owner 1 lets go all of owner 0's water", 30, 0).orders(0, 30).letsGo(0, 30);
        HourCase.of("farther below 0", -10, 30).orders(20, 0).letsGo(20, 0);
        HourCase.of("no farther than the level", -10, 30).orders(21, 0).letsGo(20, 0);
    }

    private static void flowAtMost16() {
        HourCase.of("15 flow", 40, 40).orders(8, 7).letsGo(8, 7);
        HourCase.of("16 flow", 40, 40).orders(8, 8).letsGo(8, 8);
        HourCase.of("17 are let go, 16 flow", 40, 40).orders(8, 9).letsGo(8, 9);
        HourCase.of("60 are let go, 16 flow", 40, 40).orders(30, 30).letsGo(30, 30);
        HourCase.of("16 and 1 that is spilled", 20, 13).orders(16, 0).capacity(16).letsGoAndSpills(16, 0, 0, 1);
        HourCase.of("15 and 1 that is spilled", 20, 13).orders(15, 0).capacity(17).letsGoAndSpills(15, 0, 0, 1);
    }

    private static void levelJustTheCapacity() {
        HourCase.of("just full", 6, 4).capacity(10).letsGo(0, 0);
        HourCase.of("just full by the inflow", 6, 3).inflow(1, 0).capacity(10).letsGo(0, 0);
        HourCase.of("just full behind the parts", 6, 7).orders(2, 1).capacity(10).letsGo(2, 1);
        HourCase.of("one below the capacity", 6, 3).capacity(10).letsGo(0, 0);
    }

    private static void levelOneAboveTheCapacity() {
        HourCase.of("one above", 7, 4).capacity(10).letsGoAndSpills(0, 0, 1, 0);
        HourCase.of("one above by the inflow", 6, 4).inflow(1, 1).capacity(10).letsGoAndSpills(0, 0, 1, 0);
        HourCase.of("one above behind the parts", 7, 7).orders(2, 1).capacity(10).letsGoAndSpills(2, 1, 0, 1);
    }

    private static void spillFallsOnTheGreaterAccount() {
        HourCase.of("greater by 1", 8, 7).capacity(10).letsGoAndSpills(0, 0, 5, 0);
        HourCase.of("less by 1", 7, 8).capacity(10).letsGoAndSpills(0, 0, 0, 5);
        HourCase.of("the other one is below 0", -4, 20).capacity(10).letsGoAndSpills(0, 0, 0, 6);
        HourCase.of("the other one is below 0", 20, -4).capacity(10).letsGoAndSpills(0, 0, 6, 0);
    }

    private static void spillFallsOnOwner0IfBothAreTheSame() {
        HourCase.of("both the same", 8, 8).capacity(10).letsGoAndSpills(0, 0, 6, 0);
        HourCase.of("both the same behind the parts", 9, 12).orders(1, 4).capacity(10).letsGoAndSpills(1, 4, 6, 0);
    }

    private static void spillGoesByTheAccountsBehindTheParts() {
        HourCase.of("10 - 4 is less than 8", 10, 8).orders(4, 0).capacity(10).letsGoAndSpills(4, 0, 0, 4);
        HourCase.of("10 - 4 is less than 8", 8, 10).orders(0, 4).capacity(10).letsGoAndSpills(0, 4, 4, 0);
        HourCase.of("the one with more lets go the minimum, the other one spills", 10, 9).minimum(5).capacity(10)
            .letsGoAndSpills(5, 0, 0, 4);
    }

    private static void spillerSpillsAllOfIt() {
        HourCase.of("just the account", 9, 8).capacity(8).letsGoAndSpills(0, 0, 9, 0);
        HourCase.of("more than the account", 9, 8).capacity(7).letsGoAndSpills(0, 0, 10, 0);
        HourCase.of("more than the account", 8, 9).capacity(1).letsGoAndSpills(0, 0, 0, 16);
    }

    private static void capacityAtItsEnds() {
        HourCase.of("1 in a pond of 1", 1, 0).capacity(1).letsGo(0, 0);
        HourCase.of("2 in a pond of 1", 2, 0).capacity(1).letsGoAndSpills(0, 0, 1, 0);
        HourCase.of("200 in a pond of 200", 99, 100).inflow(1, 1).letsGo(0, 0);
        HourCase.of("201 in a pond of 200", 100, 100).inflow(1, 1).letsGoAndSpills(0, 0, 0, 1);
        HourCase.of("250 in a pond of 200", 100, 100).inflow(50, 0).letsGoAndSpills(0, 0, 50, 0);
        HourCase.of("a full pond of 200 falls to 1", 120, 80).capacity(1).letsGoAndSpills(0, 0, 199, 0);
    }
}
