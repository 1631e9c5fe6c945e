/** Promises 20 to 29. */
public final class MarketTest {
    private static final Check CHECK = new Check();

    public static void main(String[] args) {
        ask();
        buy();
        buyOfLeased();
        buyBeyondTheMostMoney();
        refusedBuy();
        buyCheapest();
        lease();
        refusedLease();
        sales();
        setRules();
        count();
        bank();
        CHECK.end();
    }

    private static void ask() {
        PromiseMarket market = Setups.market("process 0 0 0; promise 0 4 1 4; promise 0 4 1 4 ask 5;");
        CHECK.due("20: ask(0, 0)", market.ask(0, 0), -1);
        CHECK.due("20: ask(0, 99999)", market.ask(0, 99999), 0);
        CHECK.due("20: ask(0, NONE)", market.ask(0, PromiseMarket.NONE), 99999);
        CHECK.due("20: ask(0, NONE) again", market.ask(0, -1), -1);
        CHECK.due("20: ask(1, 6)", market.ask(1, 6), 5);
        CHECK.due("20: told(1, 9)", market.told(1, 9), 6);
        CHECK.dueArgument("20: ask(1, -2)", () -> market.ask(1, -2));
        CHECK.dueArgument("20: ask(1, 100000)", () -> market.ask(1, 100000));
        CHECK.dueIndex("20: ask(2, -2)", () -> market.ask(2, -2));
        CHECK.dueIndex("20: ask(-1, 1)", () -> market.ask(-1, 1));
        CHECK.due("20: told(1, 9) then", market.told(1, 9), 6);
        market.end(1);
        CHECK.dueArgument("20: it has ended, wrong besides", () -> market.ask(1, -2));
        CHECK.dueState("20: it has ended", () -> market.ask(1, 1));
        CHECK.dueState("20: it has ended, no price", () -> market.ask(1, -1));
        CHECK.due("20: told(1, 9) of one that ended", market.told(1, 9), -1);
    }

    private static void buy() {
        PromiseMarket market = Setups.market("process 10 0 0; process 99 0 0; promise 0 4 1 4 ask 99;");
        CHECK.due("21: buy(0, 1) with all its money", market.buy(0, 1), 0);
        CHECK.due("21: the owner gets 99 less 9", market.process(0, 0), 100);
        CHECK.due("21: the buyer has paid 99", market.process(1, 0), 0);
        CHECK.due("29: the bank gets 9", market.bank(), 9L);
        CHECK.due("21: the owner then", market.told(0, 1), 1);
        CHECK.due("21: no price then", market.told(0, 9), -1);
        CHECK.due("7: process(1, 11)", market.process(1, 11), 1);
        CHECK.due("7: process(0, 11)", market.process(0, 11), 0);
        market.ask(0, 0);
        CHECK.due("21: for nothing", market.buy(0, 0), 1);
        market.ask(0, 50);
        market.setRules(5, 50);
        market.pay(1, 51);
        CHECK.due("21: back", market.buy(0, 1), 0);
        CHECK.due("21: the fee of now", market.process(0, 0), 125);
        CHECK.due("29: bank()", market.bank(), 34L);
        market.setRules(5, 0);
        market.ask(0, 3);
        market.buy(0, 0);
        CHECK.due("21: without a fee", market.process(1, 0), 4);
        CHECK.due("29: bank()", market.bank(), 34L);
    }

    /** The job of the seller stays the seller's, the lease stays the lessee's. */
    private static void buyOfLeased() {
        PromiseMarket market = Setups.market(
                "process 0 0 0; process 99 0 0; process 99 0 0; promise 0 4 2 3 ask 1;");
        market.run(1);
        market.lease(0, 2, 1, 0);
        market.buy(0, 1);
        CHECK.due("21: the holder of the job and the lease stay", Setups.promiseOf(market, 0),
                "0 1 4 2 3 4 1 3 0 -1 2 1 0 0 1 1 0");
        market.run(4);
        CHECK.due("21: the lessee's job", market.told(0, 8), 2);
        market.run(4);
        CHECK.due("21: the new owner's job", market.told(0, 8), 1);
        market.ask(0, 1);
        market.lease(0, 2, 5, 0);
        market.buy(0, 2);
        CHECK.due("21: the lessee may buy it, the lease stays", market.told(0, 10), 2);
        CHECK.due("21: jobs of the lease", market.told(0, 11), 5);
    }

    private static void buyBeyondTheMostMoney() {
        PromiseMarket market = Setups.market("process 999999 0 0; process 1000 0 0; promise 0 4 1 4 ask 1000;");
        market.buy(0, 1);
        CHECK.due("21: at most 1000000", market.process(0, 0), 1000000);
        CHECK.due("29: the fee is not more for that", market.bank(), 100L);
        market.pay(1, 10);
        market.ask(0, 5);
        market.lease(0, 0, 2, 5);
        CHECK.due("23: the lessee has paid 10", market.process(0, 0), 999990);
        PromiseMarket rich = Setups.market("process 999999 0 0; process 1000 0 0; promise 0 4 1 4;");
        rich.lease(0, 1, 2, 5);
        CHECK.due("23: at most 1000000", rich.process(0, 0), 1000000);
        CHECK.due("23: the lessee has paid 10", rich.process(1, 0), 990);
    }

    private static void refusedBuy() {
        PromiseMarket market = Setups.market(
                "process 100 0 0; process 99 0 0; promise 0 4 1 4 ask 100; promise 0 4 1 4; promise 0 4 1 4 ask 5;");
        market.end(2);
        String before = Setups.everythingOf(market);
        CHECK.dueState("21: 1 too little", () -> market.buy(0, 1));
        CHECK.dueState("21: no price", () -> market.buy(1, 1));
        CHECK.dueState("21: it has ended", () -> market.buy(2, 1));
        CHECK.dueState("21: it is the owner", () -> market.buy(0, 0));
        CHECK.dueIndex("21: buy(3, 1)", () -> market.buy(3, 1));
        CHECK.dueIndex("21: buy(-1, 1)", () -> market.buy(-1, 1));
        CHECK.dueIndex("21: buy(0, 2)", () -> market.buy(0, 2));
        CHECK.dueIndex("21: buy(0, -1)", () -> market.buy(0, -1));
        CHECK.dueIndex("21: no price, no process", () -> market.buy(1, 2));
        CHECK.due("21: all after exceptions", Setups.everythingOf(market), before);
    }

    private static void buyCheapest() {
        PromiseMarket market = Setups.market("process 500 0 0; process 40 0 0; promise 0 120 1 120 ask 20;"
                + "promise 0 120 5 120 ask 11; promise 0 120 3 120 ask 10; promise 0 120 4 120 ask 10;"
                + "promise 0 120 4 120 ask 10; promise 1 120 4 120 ask 1; promise 0 120 4 120; promise 0 120 9 120 ask 6;");
        market.end(7);
        CHECK.due("22: the lowest promise has the least price",
                Setups.market("process 0 0 0; process 9 0 0; promise 0 4 1 4 ask 9;").buyCheapest(1), 0);
        PromiseMarket unpriced = Setups.market("process 0 0 0; promise 0 4 1 4;");
        CHECK.dueIndex("22: no price, no process", () -> unpriced.buyCheapest(1));
        CHECK.due("22: the least price, the greatest budget, the lowest", market.buyCheapest(1), 3);
        CHECK.due("22: the next", market.buyCheapest(1), 4);
        CHECK.due("22: the next", market.buyCheapest(1), 2);
        CHECK.due("22: money", market.process(1, 0), 10);
        CHECK.due("22: 11 is too much", market.buyCheapest(1), -1);
        market.pay(1, 1);
        CHECK.due("22: 11 is not too much", market.buyCheapest(1), 1);
        CHECK.due("22: the owner then", market.told(1, 1), 1);
        CHECK.due("22: no price then", market.told(1, 9), -1);
        CHECK.due("22: bank", market.bank(), 4L);
        CHECK.due("22: count(6)", market.count(6), 4);
        CHECK.due("22: sales(0, 1)", market.sales(0, 1), 4);
        CHECK.due("22: the other way", market.buyCheapest(0), 5);
        String before = Setups.everythingOf(market);
        CHECK.due("22: there is none", market.buyCheapest(1), -1);
        CHECK.dueIndex("22: buyCheapest(2)", () -> market.buyCheapest(2));
        CHECK.dueIndex("22: buyCheapest(-1)", () -> market.buyCheapest(-1));
        CHECK.due("22: nothing happens then", Setups.everythingOf(market), before);
    }

    private static void lease() {
        PromiseMarket market = Setups.market("process 10 0 0; process 50 0 0; promise 0 4 1 4 ask 8;");
        CHECK.due("23: lease(0, 1, 2, 25)", market.lease(0, 1, 2, 25), 50);
        CHECK.due("23: without a fee", market.process(0, 0), 60);
        CHECK.due("23: all its money", market.process(1, 0), 0);
        CHECK.due("23: nothing for the bank", market.bank(), 0L);
        CHECK.due("23: a lease is no sale", market.count(6), 0);
        CHECK.due("23: the promise", Setups.promiseOf(market, 0), "0 0 4 1 4 0 -1 -1 -1 8 1 2 0 0 0 0 0");
        market.run(1);
        CHECK.due("23: the first job", Setups.promiseOf(market, 0), "0 0 4 1 4 4 0 4 1 8 1 1 0 0 1 1 0");
        CHECK.dueState("23: it is leased", () -> market.lease(0, 1, 1, 0));
        market.run(4);
        CHECK.due("23: the last job", Setups.promiseOf(market, 0), "0 0 4 1 4 8 0 8 1 8 -1 0 0 0 2 2 0");
        CHECK.due("23: leased again", market.lease(0, 1, 50, 0), 0);
        CHECK.due("23: jobs of the lease", market.told(0, 11), 50);
        market.run(4 * 49);
        CHECK.due("23: 1 of 50 is left", market.told(0, 11), 1);
        market.run(4);
        CHECK.due("23: the 50th job", market.told(0, 8), 1);
        market.run(4);
        CHECK.due("23: the owner's job", market.told(0, 8), 0);
        market.pay(1, 10000);
        CHECK.due("23: lease(0, 1, 10, 999)", market.lease(0, 1, 10, 999), 9990);
    }

    private static void refusedLease() {
        PromiseMarket market = Setups.market("process 100 0 0; process 49 0 0; promise 0 4 1 4; promise 0 4 1 4;");
        market.end(1);
        String before = Setups.everythingOf(market);
        int[][] wrong = {{0, 1}, {51, 1}, {-1, 1}, {1, -1}, {1, 1000}, {Integer.MAX_VALUE, 999}};
        for (int[] w : wrong) {
            CHECK.dueArgument("23: a wrong argument", () -> market.lease(0, 1, w[0], w[1]));
            CHECK.dueArgument("23: it has ended, wrong besides", () -> market.lease(1, 1, w[0], w[1]));
            CHECK.dueIndex("23: no process, wrong besides", () -> market.lease(0, 2, w[0], w[1]));
        }
        CHECK.dueIndex("23: lease(2, 1, 1, 1)", () -> market.lease(2, 1, 1, 1));
        CHECK.dueIndex("23: lease(-1, 1, 1, 1)", () -> market.lease(-1, 1, 1, 1));
        CHECK.dueIndex("23: lease(0, -1, 1, 1)", () -> market.lease(0, -1, 1, 1));
        CHECK.dueState("23: it has ended", () -> market.lease(1, 1, 1, 1));
        CHECK.dueState("23: it is the owner", () -> market.lease(0, 0, 1, 1));
        CHECK.dueState("23: 1 too little", () -> market.lease(0, 1, 50, 1));
        CHECK.due("23: all after exceptions", Setups.everythingOf(market), before);
        CHECK.due("23: enough", market.lease(0, 1, 49, 1), 49);
    }

    private static void sales() {
        PromiseMarket market = Setups.market("process 100 0 0; process 100 0 0; process 100 0 0;"
                + "promise 0 4 1 4 ask 10; promise 0 4 1 4 ask 11;");
        market.buy(0, 1);
        market.buy(1, 1);
        CHECK.due("24: sales(0, 1)", market.sales(0, 1), 2);
        CHECK.due("24: sales(1, 0)", market.sales(1, 0), 0);
        CHECK.due("25: partners()", market.partners(), 1);
        CHECK.due("26: meanPrice()", market.meanPrice(), 10.5f);
        market.ask(0, 1);
        market.buy(0, 0);
        CHECK.due("24: sales(1, 0)", market.sales(1, 0), 1);
        CHECK.due("25: the other way is another pair", market.partners(), 2);
        CHECK.due("26: meanPrice()", market.meanPrice(), 22.0f / 3.0f);
        market.ask(0, 0);
        market.buy(0, 2);
        CHECK.due("25: a third pair", market.partners(), 3);
        CHECK.due("26: meanPrice()", market.meanPrice(), 5.5f);
        CHECK.due("28: count(6)", market.count(6), 4);
        market.ask(1, 0);
        market.buy(1, 2);
        CHECK.due("24: sales(1, 2)", market.sales(1, 2), 1);
        CHECK.due("24: sales(0, 2)", market.sales(0, 2), 1);
        CHECK.due("25: a fourth pair, with a buyer of before", market.partners(), 4);
        CHECK.dueIndex("24: sales(3, 0)", () -> market.sales(3, 0));
        CHECK.dueIndex("24: sales(0, 3)", () -> market.sales(0, 3));
        CHECK.dueIndex("24: sales(-1, 0)", () -> market.sales(-1, 0));
        CHECK.dueIndex("24: sales(0, -1)", () -> market.sales(0, -1));

        // 300 prices of 99999 are no float: the sum must be rounded before it is divided
        PromiseMarket dear = Setups.market("process 1000000 0 0; process 1000000 0 0; promise 0 4 1 4 ask 99999;");
        dear.setRules(0, 0);
        int owner = 0;
        for (int i = 1; i <= 170; i++) {
            owner = 1 - owner;
            dear.buy(0, owner);
            dear.ask(0, 99999);
        }
        CHECK.due("26: meanPrice()", dear.meanPrice(), (float) (170 * 99999) / 170.0f);
    }

    private static void setRules() {
        PromiseMarket market = new PromiseMarket();
        market.setRules(99, 50);
        CHECK.due("27: PENALTY", market.count(4), 99);
        CHECK.due("27: FEE", market.count(5), 50);
        market.setRules(0, 0);
        CHECK.due("27: PENALTY", market.count(4), 0);
        CHECK.due("27: FEE", market.count(5), 0);
        int[][] wrong = {{-1, 1}, {100, 1}, {1, -1}, {1, 51}, {Integer.MIN_VALUE, 1}, {1, Integer.MAX_VALUE}};
        for (int[] w : wrong) {
            CHECK.dueArgument("27: a wrong argument", () -> market.setRules(w[0], w[1]));
        }
        CHECK.due("27: counts after exceptions", Setups.countsOf(market), "0 0 0 0 0 0 0 0 0 0 0 0 0");
    }

    /** Ticks 0 to 5: used, sold, wasted, free, idle, idle. */
    private static void count() {
        PromiseMarket market = Setups.market(
                "fee 7; penalty 8; process 100 1 0; process 100 2 70; promise 0 120 3 3 ask 30; promise 0 120 1 120;");
        market.end(1);
        market.run(2);
        market.buy(0, 1);
        market.run(1);
        CHECK.due("28: after the third tick", Setups.countsOf(market), "3 2 2 1 8 7 1 1 1 1 0 0 0");
        market.run(3);
        CHECK.due("28: after the sixth tick", Setups.countsOf(market), "6 2 2 1 8 7 1 1 1 1 1 2 0");
        CHECK.dueArgument("28: count(-1)", () -> market.count(-1));
        CHECK.dueArgument("28: count(13)", () -> market.count(13));
    }

    private static void bank() {
        PromiseMarket market = Setups.market("penalty 9; process 20 0 0; promise 0 10 5 10;");
        CHECK.due("30: run(2)", market.run(2), 2);
        CHECK.due("29: two penalties", market.bank(), 18L);
        market.run(1);
        CHECK.due("29: all its money", market.bank(), 20L);
        CHECK.due("7: the penalties that it paid", market.process(0, 10), 20);
        market.run(1);
        CHECK.due("29: nothing", market.bank(), 20L);
        CHECK.due("30: wasted all the same", market.count(9), 4);
    }
}
