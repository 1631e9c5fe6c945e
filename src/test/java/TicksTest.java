/** Promises 30 to 33, and the four steps of a tick. */
public final class TicksTest {
    private static final Check CHECK = new Check();

    public static void main(String[] args) {
        run();
        arrivalsComeFirst();
        earliestDeadline();
        highestBid();
        whoMayBuy();
        mostMoneyOfSeller();
        freeTicks();
        eightProcesses();
        ticksToFinish();
        moneyAfter();
        bestBid();
        CHECK.end();
    }

    private static void run() {
        PromiseMarket market = Setups.market("process 1000000 0 0; promise 0 4 3 4;");
        CHECK.due("30: run(1)", market.run(1), 1);
        CHECK.due("30: run(3)", market.run(3), 2);
        CHECK.due("30: run(500)", market.run(500), 375);
        CHECK.due("28: the time", market.count(0), 504);
        CHECK.due("28: wasted ticks", market.count(9), 378);
        CHECK.due("28: idle ticks", market.count(11), 126);
        int[] wrong = {0, 501, -1, Integer.MIN_VALUE, Integer.MAX_VALUE};
        for (int ticks : wrong) {
            CHECK.dueArgument("30: run(" + ticks + ")", () -> market.run(ticks));
        }
        CHECK.due("30: the time after exceptions", market.count(0), 504);
        CHECK.due("30: no job is missed", market.count(12), 0);
    }

    /** What arrives in a tick can be used in it; each promise gets its job at its own times. */
    private static void arrivalsComeFirst() {
        PromiseMarket market = Setups.market("process 0 0 0 every 4 1; promise 0 4 1 1;");
        CHECK.due("30: each job has work", market.run(40), 0);
        CHECK.due("30: used ticks", market.told(0, 12), 10);
        CHECK.due("30: released jobs", market.told(0, 15), 10);
    }

    private static void earliestDeadline() {
        PromiseMarket market = Setups.market(
                "process 0 9 0; process 0 9 0; process 0 9 0; promise 0 10 2 9; promise 1 10 2 5; promise 2 10 2 5;");
        int[] runners = {1, 1, 2, 2, 0, 0};
        for (int i = 0; i < runners.length; i++) {
            int before = market.process(runners[i], 5);
            market.run(1);
            CHECK.due("30: earliest, then lowest, in tick " + i, market.process(runners[i], 5), before + 1);
        }
        PromiseMarket later = Setups.market("process 0 9 0; process 0 9 0; promise 0 20 4 12;");
        later.run(2);
        later.promise(1, 20, 2, 5);
        later.run(1);
        CHECK.due("30: due at 7 before due at 12", later.process(1, 5), 1);
        later.run(3);
        CHECK.due("30: then the rest", later.process(0, 5), 4);
        PromiseMarket tie = Setups.market("process 0 9 0; process 0 9 0; promise 0 20 1 12;");
        tie.run(2);
        tie.promise(1, 20, 2, 10);
        tie.promise(0, 20, 2, 10);
        tie.run(1);
        CHECK.due("30: both are due at 12", tie.process(1, 5), 1);
    }

    private static void highestBid() {
        PromiseMarket market = Setups.market("process 5 0 0; process 50 1 20; process 50 1 30; process 50 1 30;"
                + "promise 0 10 4 10;");
        market.run(1);
        CHECK.due("30: the lowest of the highest bids", market.process(2, 6), 1);
        market.run(1);
        CHECK.due("30: then the other", market.process(3, 6), 1);
        market.run(1);
        CHECK.due("30: then the lower bid", Setups.processOf(market, 1), "30 0 20 0 0 0 1 0 0 20 0 0");
        CHECK.due("30: the holder", Setups.processOf(market, 0), "85 0 0 0 0 0 0 0 80 0 0 1");
        CHECK.due("30: sold ticks", market.told(0, 13), 3);
        CHECK.due("30: run(1) without a buyer", market.run(1), 1);
        CHECK.due("30: the holder pays", market.process(0, 0), 80);
    }

    private static void whoMayBuy() {
        PromiseMarket market = Setups.market(
                "process 0 0 99; process 19 1 20; process 50 1 0; process 50 0 30; promise 0 10 1 10;");
        CHECK.due("30: no money, no bid, no backlog", market.run(1), 1);
        CHECK.due("30: the holder has nothing to pay", market.bank(), 0L);
        market.run(1);
        CHECK.due("30: a free tick needs no bid", market.process(1, 7), 1);
        market.run(8);
        market.addWork(1, 1);
        market.pay(1, 1);
        CHECK.due("30: all its money is enough", market.run(1), 0);
        CHECK.due("30: the buyer", market.process(1, 0), 0);

        PromiseMarket leased = Setups.market("process 50 1 10; process 50 0 0; promise 0 4 1 4;");
        leased.lease(0, 1, 1, 0);
        leased.run(1);
        CHECK.due("30: the owner may buy of the lessee", leased.process(0, 6), 1);
        CHECK.due("30: the lessee gets it", leased.process(1, 0), 60);
        CHECK.due("30: the sum of bids is the lessee's", leased.process(1, 8), 10);
    }

    private static void mostMoneyOfSeller() {
        PromiseMarket market = Setups.market("process 999990 0 0; process 50 1 30; promise 0 4 1 4;");
        market.run(1);
        CHECK.due("30: at most 1000000", market.process(0, 0), 1000000);
        CHECK.due("30: the whole bid is counted", market.process(0, 8), 30);
        CHECK.due("30: the whole bid is paid", market.process(1, 0), 20);
        CHECK.due("30: the bank gets nothing", market.bank(), 0L);
    }

    private static void freeTicks() {
        PromiseMarket market = Setups.market("process 0 0 0; process 0 2 0; process 0 2 0; process 0 1 0;");
        int[] runners = {1, 2, 3, 1, 2};
        for (int i = 0; i < runners.length; i++) {
            int before = market.process(runners[i], 7);
            market.run(1);
            CHECK.due("30: free tick " + i, market.process(runners[i], 7), before + 1);
        }
        market.run(2);
        CHECK.due("30: idle", market.count(11), 2);
        market.addWork(2, 2);
        market.addWork(1, 1);
        market.run(1);
        CHECK.due("30: behind 2 comes 1, after idle ticks too", market.process(1, 7), 3);
        market.run(2);
        CHECK.due("30: the same again, if it is the only one", market.process(2, 7), 4);
        CHECK.due("28: free ticks", market.count(10), 8);

        PromiseMarket first = Setups.market("process 0 1 0; process 0 1 0;");
        first.run(1);
        CHECK.due("30: first process 0", first.process(0, 7), 1);
    }

    private static void eightProcesses() {
        PromiseMarket market = Setups.market("process 9 0 0; process 0 0 0; process 0 0 0; process 0 0 0;"
                + "process 0 0 0; process 0 0 0; process 0 0 0; process 40 0 5; promise 0 4 1 4;");
        CHECK.due("30: nobody buys", market.run(4), 1);
        CHECK.due("28: three ticks are idle", market.count(11), 3);
        market.setArrival(7, 4, 2);
        CHECK.due("30: the last process buys one tick and has a free one", market.run(4), 0);
        CHECK.due("30: the last process", Setups.processOf(market, 7), "35 0 5 4 2 0 1 1 0 5 0 0");
    }

    private static void ticksToFinish() {
        PromiseMarket market = Setups.market("process 0 3 0 every 3 1; process 0 0 0; promise 0 2 1 2;");
        String before = Setups.everythingOf(market);
        // its backlog behind the ticks 0 to 4 is 3, 2, 1, 1 and 0, as the free ticks are its own too
        CHECK.due("31: ticksToFinish(0, 500)", market.ticksToFinish(0, 500), 5);
        CHECK.due("31: ticksToFinish(0, 5)", market.ticksToFinish(0, 5), 5);
        CHECK.due("31: ticksToFinish(0, 4)", market.ticksToFinish(0, 4), -1);
        CHECK.due("31: none now", market.ticksToFinish(1, 1), 0);
        CHECK.dueArgument("31: ticksToFinish(0, 0)", () -> market.ticksToFinish(0, 0));
        CHECK.dueArgument("31: ticksToFinish(0, 501)", () -> market.ticksToFinish(0, 501));
        CHECK.dueIndex("31: ticksToFinish(2, 0)", () -> market.ticksToFinish(2, 0));
        CHECK.dueIndex("31: ticksToFinish(-1, 1)", () -> market.ticksToFinish(-1, 1));
        CHECK.due("31: time has not passed", Setups.everythingOf(market), before);
        market.setArrival(1, 1, 60);
        CHECK.due("31: none now, whatever arrives", market.ticksToFinish(1, 1), 0);
        PromiseMarket two = Setups.market("process 0 250 0; process 0 251 0;");
        CHECK.due("31: every other tick is its own", two.ticksToFinish(0, 500), 499);
        CHECK.due("31: 501 are needed", two.ticksToFinish(1, 500), -1);
        PromiseMarket one = Setups.market("process 0 500 0;");
        CHECK.due("31: 500 are needed", one.ticksToFinish(0, 500), 500);
        CHECK.due("31: 499 are not enough", one.ticksToFinish(0, 499), -1);
    }

    private static void moneyAfter() {
        PromiseMarket market = Setups.market("process 100 0 0; process 10 3 7 every 9 1; promise 0 4 3 4;");
        String before = Setups.everythingOf(market);
        CHECK.due("32: a tick is sold", market.moneyAfter(0, 1), 107);
        CHECK.due("32: a tick is bought", market.moneyAfter(1, 1), 3);
        CHECK.due("32: two are wasted", market.moneyAfter(0, 3), 97);
        CHECK.due("32: 374 of 500 are wasted", market.moneyAfter(0, 500), 0);
        CHECK.dueArgument("32: moneyAfter(0, 0)", () -> market.moneyAfter(0, 0));
        CHECK.dueArgument("32: moneyAfter(0, 501)", () -> market.moneyAfter(0, 501));
        CHECK.dueIndex("32: moneyAfter(2, 0)", () -> market.moneyAfter(2, 0));
        CHECK.dueIndex("32: moneyAfter(-1, 1)", () -> market.moneyAfter(-1, 1));
        CHECK.due("32: time has not passed", Setups.everythingOf(market), before);
        market.run(3);
        CHECK.due("32: as predicted", market.process(0, 0), 97);
    }

    private static void bestBid() {
        PromiseMarket market = Setups.market("process 0 0 0; process 60 3 5; process 60 3 20; promise 0 4 4 4;");
        String before = Setups.everythingOf(market);
        CHECK.due("33: against a bid of 20, as the lower one", market.bestBid(1, 1), 20);
        CHECK.due("33: against a bid of 5, as the higher one", market.bestBid(2, 1), 6);
        CHECK.due("33: the first three ticks of six", market.bestBid(1, 3), 20);
        CHECK.due("33: the last three ticks of six, for the least money", market.bestBid(1, 6), 1);
        CHECK.due("33: time has not passed", Setups.everythingOf(market), before);
        CHECK.dueArgument("33: bestBid(1, 0)", () -> market.bestBid(1, 0));
        CHECK.dueArgument("33: bestBid(1, 121)", () -> market.bestBid(1, 121));
        CHECK.dueIndex("33: bestBid(3, 0)", () -> market.bestBid(3, 0));
        CHECK.dueIndex("33: bestBid(-1, 1)", () -> market.bestBid(-1, 1));
        CHECK.due("33: without backlog all are the same", market.bestBid(0, 120), 0);
        PromiseMarket poor = Setups.market("process 0 0 0; process 30 5 99; promise 0 4 4 4;");
        CHECK.due("33: of those that buy five ticks, the one that leaves the most money", poor.bestBid(1, 5), 1);
        PromiseMarket rich = Setups.market("process 0 0 0; process 500 9 98; process 500 9 0; promise 0 4 4 4;");
        CHECK.due("33: a bid of 99 wins each of five ticks", rich.bestBid(2, 5), 99);
        CHECK.due("33: its own bid of before does not count", rich.bestBid(1, 120), 1);
    }
}
