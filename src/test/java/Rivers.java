/** Rivers in the states where edges lie; each asks for few calls, so that many are left for a test (512 in all). */
enum Rivers {
    NEW, BUSY, FULL, LATE;

    WaterCascade make() {
        switch (this) {
            case BUSY: return busy();
            case FULL: return full();
            case LATE: return late();
            default: return new WaterCascade();
        }
    }

    /** Water under way to both lower plants, an account below 0, water lent, spilled and missed. */
    private static WaterCascade busy() {
        WaterCascade x = new WaterCascade();
        x.setPond(0, 30, 3, 2);
        x.setPond(1, 25, 20, 3);
        x.setPond(2, 20, 7, 1);
        x.setInflow(0, 23, 33);
        x.setInflow(1, 11, 70);
        x.setInflow(2, 5, 10);
        x.order(0, 0, 9);
        x.order(0, 1, 4);
        x.order(1, 0, 3);
        x.order(1, 1, 17);
        x.order(2, 0, 12);
        x.order(2, 1, 2);
        x.setMinimum(1, 18);
        x.setMinimum(2, 20);
        x.setYield(0, 0, 3, 77);
        x.setYield(1, 1, 8, 131);
        x.setYield(2, 0, 5, 0);
        x.run(11);
        x.lend(0, 1, 5);
        x.setMinimum(0, 6);
        x.order(0, 0, 2);
        x.run(1);
        return x;
    }

    /** 100 in each account, and each pond just full. */
    private static WaterCascade full() {
        WaterCascade x = new WaterCascade();
        for (int plant = 0; plant < 3; plant++) {
            x.setPond(plant, 200, 10, 1);
            x.setInflow(plant, 50, 50);
        }
        x.run(4);
        return x;
    }

    /** The busy river when all its hours are run. */
    private static WaterCascade late() {
        WaterCascade x = busy();
        for (int day = 0; day < 7; day++) {
            x.run(24);
        }
        x.run(20);
        return x;
    }

    /** A river with so much water at that plant, whose pond has a capacity of 200, and nothing else is set there. */
    static WaterCascade withAccounts(int plant, int of0, int of1) {
        WaterCascade x = new WaterCascade();
        x.setPond(plant, 200, 10, 1);
        fill(x, plant, 0, of0);
        fill(x, plant, 1, of1);
        overdraw(x, plant, 0, -of0);
        overdraw(x, plant, 1, -of1);
        x.setInflow(plant, 0, 0);
        Checks.due("account of owner 0 made", x.account(plant, 0), of0);
        Checks.due("account of owner 1 made", x.account(plant, 1), of1);
        return x;
    }

    /** So much water in the pond of plant 0, of both owners. */
    static WaterCascade withLevel(int level) {
        return withAccounts(0, level - level / 2, level / 2);
    }

    /** The one setting that answers nothing, as a call like the others. */
    static int setPond(WaterCascade x, int plant, int capacity, int base, int travel) {
        x.setPond(plant, capacity, base, travel);
        return 0;
    }

    private static void fill(WaterCascade x, int plant, int owner, int amount) {
        for (int rest = amount; rest > 0; rest -= 50) {
            x.setInflow(plant, Math.min(rest, 50), owner == 0 ? 100 : 0);
            x.run(1);
        }
    }

    /** An owner with nothing lets go of the other's water, so the account falls below 0. */
    private static void overdraw(WaterCascade x, int plant, int owner, int amount) {
        if (amount > 0) {
            x.setInflow(plant, 0, 0);
            x.order(plant, owner, amount);
            x.run(1);
            x.order(plant, owner, 0);
        }
    }
}
