/** Each range of each argument: all of it is taken, what lies outside is refused and changes nothing. */
final class RangesTest {
    private RangesTest() {
    }

    public static void main(String[] args) {
        promise2SetPond();
        promise3SetInflow();
        promise4SetMinimum();
        promise5Order();
        promise6SetYield();
        promise7Run();
        promise9Lend();
        promise10Account();
        promise11Level();
        promise12Travelling();
        promise13Arriving();
        promises14To16Owners();
        promises17To20Plants();
        promise21Mix();
        promises22To24Hours();
        Checks.end();
    }

    private static void promise2SetPond() {
        Ranges.of("setPond(plant, ..)", 0, 2, (x, plant) -> Rivers.setPond(x, plant, 17, 88, 4));
        Ranges.of("setPond(0, capacity, ..)", 1, 200, (x, capacity) -> Rivers.setPond(x, 0, capacity, 88, 4));
        Ranges.of("setPond(1, .., base, ..)", 0, 100, (x, base) -> Rivers.setPond(x, 1, 17, base, 4));
        Ranges.of("setPond(2, .., travel)", 0, 5, (x, travel) -> Rivers.setPond(x, 2, 17, 88, travel));
        Ranges.of("setPond(0, .., travel)", 0, 5, (x, travel) -> Rivers.setPond(x, 0, 17, 88, travel));
    }

    private static void promise3SetInflow() {
        Ranges.of("setInflow(plant, ..)", 0, 2, (x, plant) -> x.setInflow(plant, 37, 66));
        Ranges.of("setInflow(0, inflow, ..)", 0, 50, (x, inflow) -> x.setInflow(0, inflow, 66));
        Ranges.of("setInflow(2, .., share)", 0, 100, (x, share) -> x.setInflow(2, 37, share));
    }

    private static void promise4SetMinimum() {
        Ranges.of("setMinimum(plant, ..)", 0, 2, (x, plant) -> x.setMinimum(plant, 13));
        Ranges.of("setMinimum(1, flow)", 0, 20, (x, flow) -> x.setMinimum(1, flow));
    }

    private static void promise5Order() {
        Ranges.of("order(plant, ..)", 0, 2, (x, plant) -> x.order(plant, 1, 21));
        Ranges.of("order(0, owner, ..)", 0, 1, (x, owner) -> x.order(0, owner, 21));
        Ranges.of("order(2, 0, flow)", 0, 30, (x, flow) -> x.order(2, 0, flow));
    }

    private static void promise6SetYield() {
        Ranges.of("setYield(plant, ..)", 0, 2, (x, plant) -> x.setYield(plant, 1, 6, 180));
        Ranges.of("setYield(0, turbine, ..)", 0, 1, (x, turbine) -> x.setYield(0, turbine, 6, 180));
        Ranges.of("setYield(1, 0, flow, ..)", 1, 8, (x, flow) -> x.setYield(1, 0, flow, 180));
        Ranges.of("setYield(2, 1, 6, power)", 0, 200, (x, power) -> x.setYield(2, 1, 6, power));
    }

    private static void promise7Run() {
        Ranges.in(Rivers.NEW, "run(hours)", 1, 24, WaterCascade::run);
        Ranges.in(Rivers.BUSY, "run(hours)", 1, 24, WaterCascade::run);
        Ranges.in(Rivers.FULL, "run(hours)", 1, 24, WaterCascade::run);
        // no hours are left there, but hours out of range are the first exception
        Ranges.refusedOutside(Rivers.LATE, "run(hours)", 1, 24, WaterCascade::run);
    }

    private static void promise9Lend() {
        Ranges.in(Rivers.FULL, "lend(plant, 0, 100)", 0, 2, (x, plant) -> x.lend(plant, 0, 100));
        Ranges.in(Rivers.FULL, "lend(2, owner, 100)", 0, 1, (x, owner) -> x.lend(2, owner, 100));
        Ranges.in(Rivers.FULL, "lend(1, 1, amount)", 1, 100, (x, amount) -> x.lend(1, 1, amount));
        // there is nothing to lend there, but arguments out of range are the first exception
        Ranges.refusedOutside(Rivers.NEW, "lend(plant, 0, 100)", 0, 2, (x, plant) -> x.lend(plant, 0, 100));
        Ranges.refusedOutside(Rivers.NEW, "lend(2, owner, 100)", 0, 1, (x, owner) -> x.lend(2, owner, 100));
        Ranges.refusedOutside(Rivers.NEW, "lend(1, 1, amount)", 1, 100, (x, amount) -> x.lend(1, 1, amount));
        Ranges.refusedOutside(Rivers.LATE, "lend(1, 1, amount)", 1, 100, (x, amount) -> x.lend(1, 1, amount));
    }

    private static void promise10Account() {
        Ranges.of("account(plant, 0)", 0, 2, (x, plant) -> x.account(plant, 0));
        Ranges.of("account(1, owner)", 0, 1, (x, owner) -> x.account(1, owner));
    }

    private static void promise11Level() {
        Ranges.of("level(plant)", 0, 2, WaterCascade::level);
    }

    private static void promise12Travelling() {
        Ranges.of("travelling(plant, 1)", 1, 2, (x, plant) -> x.travelling(plant, 1));
        Ranges.of("travelling(2, owner)", 0, 1, (x, owner) -> x.travelling(2, owner));
    }

    private static void promise13Arriving() {
        Ranges.of("arriving(plant, 0, 3)", 1, 2, (x, plant) -> x.arriving(plant, 0, 3));
        Ranges.of("arriving(1, owner, 3)", 0, 1, (x, owner) -> x.arriving(1, owner, 3));
        Ranges.of("arriving(2, 1, hour)", 0, 300, (x, hour) -> x.arriving(2, 1, hour));
    }

    private static void promises14To16Owners() {
        Ranges.of("cameIn(owner)", 0, 1, WaterCascade::cameIn);
        Ranges.of("gone(owner)", 0, 1, WaterCascade::gone);
        Ranges.of("balance(owner)", 0, 1, WaterCascade::balance);
    }

    private static void promises17To20Plants() {
        Ranges.of("spilled(plant)", 0, 2, WaterCascade::spilled);
        Ranges.of("missed(plant)", 0, 2, WaterCascade::missed);
        Ranges.of("flow(plant)", 0, 2, WaterCascade::flow);
        Ranges.of("energy(plant)", 0, 2, WaterCascade::energy);
    }

    private static void promise21Mix() {
        Ranges.of("mix(plant, 9)", 0, 2, (x, plant) -> x.mix(plant, 9));
        Ranges.of("mix(1, flow)", 0, 16, (x, flow) -> x.mix(1, flow));
    }

    private static void promises22To24Hours() {
        Ranges.of("bestEnergy(hours)", 1, 6, WaterCascade::bestEnergy);
        Ranges.of("bestEnergyByAll(hours)", 1, 6, WaterCascade::bestEnergyByAll);
        Ranges.of("bestRelease(hours)", 1, 6, WaterCascade::bestRelease);
    }
}
