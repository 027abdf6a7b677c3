/**
 * One hour at a plant, told by the accounts ahead of it and by what each owner lets go and spills in it. It is run at
 * each of the three plants, and everything that the hour changes there is compared.
 */
final class HourCase {
    private final String what;
    private final int[] accounts;
    private int[] orders = {0, 0};
    private int minimum = 0;
    private int capacity = 200;
    private int inflow = 0;
    private int share = 0;

    private HourCase(String what, int[] accounts) {
        this.what = what;
        this.accounts = accounts;
    }

    static HourCase of(String what, int account0, int account1) {
        return new HourCase(what, new int[] {account0, account1});
    }

    HourCase orders(int of0, int of1) {
        orders = new int[] {of0, of1};
        return this;
    }

    HourCase minimum(int flow) {
        minimum = flow;
        return this;
    }

    HourCase capacity(int most) {
        capacity = most;
        return this;
    }

    /** To one owner alone, so that the case need not divide. */
    HourCase inflow(int amount, int owner) {
        inflow = amount;
        share = owner == 0 ? 100 : 0;
        return this;
    }

    void letsGo(int part0, int part1) {
        letsGoAndSpills(part0, part1, 0, 0);
    }

    void letsGoAndSpills(int part0, int part1, int spill0, int spill1) {
        for (int plant = 0; plant < 3; plant++) {
            at(plant, new int[] {part0, part1}, new int[] {spill0, spill1});
        }
    }

    private void at(int plant, int[] parts, int[] spills) {
        WaterCascade x = Rivers.withAccounts(plant, accounts[0], accounts[1]);
        int energyBefore = x.energy(plant);
        int[] goneBefore = {x.gone(0), x.gone(1)};
        x.setPond(plant, capacity, 10, 1);
        x.setInflow(plant, inflow, share);
        x.setMinimum(plant, minimum);
        x.order(plant, 0, orders[0]);
        x.order(plant, 1, orders[1]);
        x.run(1);
        String name = what + ", plant " + plant + ": ";
        int level = accounts[0] + accounts[1] + inflow;
        int together = parts[0] + parts[1];
        int flow = together > 16 ? 16 : together;
        for (int owner = 0; owner < 2; owner++) {
            int away = parts[owner] + spills[owner];
            int came = owner == (share == 100 ? 0 : 1) ? inflow : 0;
            int onItsWay = plant == 2 ? x.gone(owner) - goneBefore[owner] : x.arriving(plant + 1, owner, x.hour());
            Checks.due(name + "what travels of owner " + owner, onItsWay, away);
            Checks.due(name + "account of owner " + owner, x.account(plant, owner), accounts[owner] + came - away);
        }
        Checks.due(name + "level", x.level(plant), level - together - spills[0] - spills[1]);
        Checks.due(name + "spilled", x.spilled(plant), spills[0] + spills[1]);
        Checks.due(name + "missed", x.missed(plant), together < minimum ? 1 : 0);
        Checks.due(name + "flow", x.flow(plant), flow);
        Checks.due(name + "energy", x.energy(plant) - energyBefore, flow * (10 + level / 5));
    }
}
