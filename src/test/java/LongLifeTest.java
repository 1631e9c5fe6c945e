/** Objects that are used for all their 512 calls: each call ends, and its answer is as due to the last. */
public final class LongLifeTest {
    private static final int MOST_CALLS = 512;
    private static final Check CHECK = new Check();

    /** Eight processes and twenty promises, of which all ticks are promised. */
    private static final String FULL = "process 1000000 9999 99 every 1 60;process 1000000 9999 99 every 60 60;"
            + "process 500 0 98;".repeat(6)
            + "promise 0 120 6 120;".repeat(10) + "promise 1 120 6 120;".repeat(9) + "promise 7 120 6 120;";
    private static final int CALLS_OF_FULL = (FULL.length() + 3) / 4 + 4;

    public static void main(String[] args) {
        dearestPredictions();
        longestTime();
        wastedTicksOfALife();
        allSales();
        leasesOfALife();
        savedAgainAndAgain();
        CHECK.end();
    }

    /** No time passes, so each call is answered alike; process 0 buys the six ticks of promise 19 four times. */
    private static void dearestPredictions() {
        PromiseMarket market = Setups.market(FULL);
        for (int calls = CALLS_OF_FULL; calls + 6 <= MOST_CALLS; calls += 6) {
            String told = market.waitFor(120, 1, 1) + " " + market.greatestBudget(120, 120) + " " + market.spare() + " "
                    + market.bestBid(7, 120) + " " + market.ticksToFinish(0, 500) + " " + market.moneyAfter(0, 500);
            CHECK.due("9 to 33: at call " + calls, told, "-1 0 0 0 -1 " + (1000000 - 4 * 6 * 99));
        }
    }

    private static void longestTime() {
        PromiseMarket market = new PromiseMarket();
        market.addProcess(3, 0, 0);
        market.addProcess(3, 0, 0);
        market.setArrival(1, 2, 1);
        market.promise(0, 120, 7, 30);
        market.promise(1, 8, 3, 8);
        int runs = 0;
        for (int calls = 5; calls + 20 <= MOST_CALLS; calls++) {
            market.run(500);
            runs++;
        }
        int time = runs * 500;
        CHECK.due("28: time", market.count(0), time);
        CHECK.due("14: jobs of promise 0", market.told(0, 15), (time + 119) / 120);
        CHECK.due("14: next release of promise 0", market.told(0, 5), (time + 119) / 120 * 120);
        CHECK.due("14: next release of promise 1", market.told(1, 5), (time + 7) / 8 * 8);
        int ticks = 0;
        for (int what = 7; what <= 11; what++) {
            ticks += market.count(what);
        }
        CHECK.due("28: ticks", ticks, time);
        CHECK.due("28: missed", market.count(12), 0);
        CHECK.due("29: all money that paid penalties", market.bank(), market.process(0, 10) + market.process(1, 10));
        CHECK.due("7: all is paid", market.process(0, 0) + " " + market.process(0, 10), "0 3");
        CHECK.due("11: and goes on", market.waitFor(120, 80, 120), PromiseMarket.NONE);
        CHECK.due("10: what is free", market.greatestBudget(120, 120), 120 - 7 - 45);
    }

    private static void wastedTicksOfALife() {
        PromiseMarket market = new PromiseMarket();
        market.addProcess(0, 0, 0);
        market.setRules(99, 0);
        market.promise(0, 2, 2, 2);
        long paid = 0;
        int calls = 3;
        for (; calls + 4 <= MOST_CALLS; calls += 2) {
            CHECK.due("6: pay", market.pay(0, 10000), 10000);
            CHECK.due("30: run", market.run(500), 500);
            paid += 10000;
        }
        CHECK.due("29: the bank", market.bank(), paid);
        CHECK.due("7: penalties", market.process(0, 10), paid);
        CHECK.due("28: wasted ticks", market.count(9), (calls - 3) / 2 * 500);
    }

    private static void allSales() {
        PromiseMarket market = new PromiseMarket();
        market.addProcess(1000000, 0, 0);
        market.addProcess(1000000, 0, 0);
        market.setRules(0, 50);
        market.promise(0, 2, 1, 1);
        int sales = 0;
        int[] money = {1000000, 1000000};
        for (int calls = 4; calls + 12 + 5 <= MOST_CALLS; calls += 12) {
            int buyer = 1 - sales % 2;
            CHECK.due("20: ask", market.ask(0, 99999), PromiseMarket.NONE);
            CHECK.due("21: buy", market.buy(0, buyer), 1 - buyer);
            sales++;
            money[buyer] -= 99999;
            money[1 - buyer] = Math.min(1000000, money[1 - buyer] + 50000);
            for (int i = 0; i < 10; i++) {
                money[buyer] = Math.min(1000000, money[buyer] + 10000);
                CHECK.due("6: pay", market.pay(buyer, 10000), money[buyer]);
            }
        }
        CHECK.due("29: half of each price", market.bank(), sales * 49999L);
        CHECK.due("26: mean price", market.meanPrice(), (float) (sales * 99999) / (float) sales);
        CHECK.due("25: partners", market.partners(), 2);
        CHECK.due("24: sales", market.sales(0, 1) + market.sales(1, 0), sales);
    }

    private static void leasesOfALife() {
        PromiseMarket market = new PromiseMarket();
        market.addProcess(0, 0, 0);
        market.addProcess(1000000, 0, 0);
        market.setRules(0, 0);
        market.promise(0, 2, 1, 2);
        for (int calls = 4; calls + 5 <= MOST_CALLS; calls += 5) {
            CHECK.due("23: lease", market.lease(0, 1, 50, 7), 350);
            CHECK.due("30: run", market.run(99), 50);
            CHECK.due("14: the latest job is the lessee's", market.told(0, 8), 1);
            market.run(1);
            CHECK.due("14: jobs left", market.told(0, 11), 0);
        }
    }

    private static void savedAgainAndAgain() {
        PromiseMarket market = Setups.market("process 9 9 9;process 0 500 0;promise 0 4 1 2 ask 5;");
        market.save(1);
        int time = 0;
        for (int calls = 20; calls + 6 <= MOST_CALLS; calls += 6) {
            market.run(7);
            market.save(0);
            time += 7;
            market.restore(1);
            CHECK.due("40: the first state", market.count(0), 0);
            market.restore(0);
            CHECK.due("40: the latest state", market.count(0), time);
        }
    }
}
