/** MARKET, and promises 20 to 29. */
final class MarketEdges extends Edges {
    private static final String PLACE = "MARKET";
    private static final String SHARES = "A process that buys it pays the price; the owner gets the price less price * FEE "
            + "/ 100 (rounded down), which goes to the bank.";

    MarketEdges(Record record) {
        super(record);
    }

    @Override
    void test() {
        ownerAsksAPrice();
        sharesOfAPrice();
        priceThatTheBuyerJustHas();
        buyerIsTheOwnerThen();
        leaseAndHolderStay();
        salesAreCounted();
        rulesAtFirst();
        bankAtFirstAndUnlimited();
        askInPlaceOfAnEarlierPrice();
        askRange();
        buy();
        buyCheapestOfOthers();
        buyCheapestOfSeveral();
        buyCheapestOfNone();
        lease();
        leaseAtItsEdges();
        sales();
        partners();
        meanPrice();
        meanPriceInSinglePrecision();
        setRules();
        count();
        countWithoutAny();
        bank();
    }

    /** Process 0 asks a price for its promise 0, which process 1 has the money to buy; there is a third one. */
    private static PromiseMarket offer(int price, int money) {
        return Setups.market("process 0 0 0; process " + money + " 0 0; process 900000 0 0; promise 0 120 2 120 ask "
                + price + ";");
    }

    private static String monies(PromiseMarket market) {
        return market.process(0, 0) + " " + market.process(1, 0) + " " + market.bank();
    }

    private void ownerAsksAPrice() {
        quote(PLACE, "The owner of a promise can ask a price for it.");
        int[] prices = {0, 1, 99999};
        for (int price : prices) {
            PromiseMarket market = Setups.market("process 0 0 0; process 100000 0 0; promise 0 4 1 4;");
            dueState("no price is asked yet", () -> market.buy(0, 1));
            market.ask(0, price);
            due("the asked price", market.told(0, 9), price);
            due("the previous owner", market.buy(0, 1), 0);
            due("what was paid", 100000 - market.process(1, 0), price);
        }
    }

    private void sharesOfAPrice() {
        quote(PLACE, SHARES);
        int[][] shares = {{0, 0, 0}, {0, 50, 0}, {1, 50, 0}, {2, 50, 1}, {3, 50, 1}, {99, 1, 0}, {100, 1, 1},
            {199, 1, 1}, {200, 1, 2}, {9, 10, 0}, {10, 10, 1}, {19, 10, 1}, {99999, 0, 0}, {99999, 1, 999},
            {99999, 10, 9999}, {99999, 49, 48999}, {99999, 50, 49999}};
        for (int[] share : shares) {
            PromiseMarket market = offer(share[0], 100000);
            market.setRules(5, share[1]);
            market.buy(0, 1);
            due("the price " + share[0] + " with FEE " + share[1], monies(market),
                    (share[0] - share[2]) + " " + (100000 - share[0]) + " " + share[2]);
        }
        PromiseMarket rich = Setups.market("process 1000000 0 0; process 500 0 0; promise 0 4 1 4 ask 500;");
        rich.buy(0, 1);
        due("of an owner that can hold nothing more", monies(rich), "1000000 0 50");
    }

    private void priceThatTheBuyerJustHas() {
        quote(PLACE, SHARES);
        int[] prices = {1, 500, 99999};
        for (int price : prices) {
            PromiseMarket enough = offer(price, price);
            due("all that the buyer has", enough.buy(0, 1), 0);
            due("its money then", enough.process(1, 0), 0);
            PromiseMarket less = offer(price, price - 1);
            dueState("1 more than the buyer has", () -> less.buy(0, 1));
            due("nothing is paid", monies(less), "0 " + (price - 1) + " 0");
            due("not as the cheapest either", less.buyCheapest(1), -1);
            due("to one that has it", less.buyCheapest(2), 0);
        }
        PromiseMarket nothing = offer(0, 0);
        due("for nothing, by one that has nothing", nothing.buy(0, 1), 0);
    }

    private void buyerIsTheOwnerThen() {
        quote(PLACE, "The buyer is the owner then, and no price is asked any more.");
        PromiseMarket market = offer(7, 20);
        market.buy(0, 1);
        due("the owner", market.told(0, 1), 1);
        due("the price", market.told(0, 9), -1);
        dueState("it can't be bought on", () -> market.buy(0, 2));
        due("nor as the cheapest", market.buyCheapest(2), -1);
        market.run(1);
        due("the holder of the next job", market.told(0, 8), 1);
        market.ask(0, 3);
        due("the new owner sells it", market.buyCheapest(2), 0);
        due("for its own price", market.process(1, 0), 20 - 7 - 5 + 3);
        due("no price again", market.told(0, 9), -1);
    }

    private void leaseAndHolderStay() {
        quote(PLACE, "A lease stays, and so does the holder of the job.");
        PromiseMarket market = Setups.market("penalty 0; process 0 0 0; process 50 0 0; process 50 0 0; promise 0 4 2 4 ask 7;");
        market.run(1);
        market.lease(0, 2, 2, 0);
        market.buy(0, 1);
        due("the lessee and its jobs", market.told(0, 10) + " " + market.told(0, 11), "2 2");
        due("the holder of the job", market.told(0, 8), 0);
        market.run(4);
        due("the holder of the next job", market.told(0, 8), 2);
        market.run(4);
        due("the holder of the lease's last job", market.told(0, 8), 2);
        market.run(4);
        due("the holder of the job behind it", market.told(0, 8), 1);
        PromiseMarket own = Setups.market("process 0 0 0; process 50 0 0; promise 0 4 2 4 ask 7;");
        own.lease(0, 1, 2, 1);
        own.buy(0, 1);
        due("the lessee is the owner then, and stays the lessee", own.told(0, 10) + " " + own.told(0, 11), "1 2");
        dueState("so it is leased", () -> own.lease(0, 0, 1, 0));
        PromiseMarket cheapest = Setups.market("process 0 0 0; process 50 0 0; process 50 0 0; promise 0 4 2 4 ask 7;");
        cheapest.run(1);
        cheapest.lease(0, 2, 2, 0);
        cheapest.buyCheapest(1);
        due("bought as the cheapest", cheapest.told(0, 8) + " " + cheapest.told(0, 10) + " " + cheapest.told(0, 11), "0 2 2");
    }

    private void salesAreCounted() {
        quote(PLACE, "Sales are counted by seller and buyer.");
        PromiseMarket market = offer(0, 0);
        int[] buyers = {1, 2, 1, 0, 1};
        for (int buyer : buyers) {
            market.ask(0, 0);
            market.buy(0, buyer);
        }
        due("all pairs", Setups.salesOf(market), "0 2 0 1 0 1 0 1 0 4 0.0");
        due("all sales", market.count(6), 5);
    }

    private void rulesAtFirst() {
        quote(PLACE, "PENALTY is 0 to 99 (5 at first), FEE is 0 to 50 (10 at first).");
        PromiseMarket market = new PromiseMarket();
        due("PENALTY at first", market.count(4), 5);
        due("FEE at first", market.count(5), 10);
        PromiseMarket wastes = Setups.market("process 100 0 0; promise 0 2 1 2;");
        wastes.run(1);
        due("the penalty at first", wastes.bank(), 5L);
        PromiseMarket sells = offer(100, 100);
        sells.buy(0, 1);
        due("the fee at first", sells.bank(), 10L);
        int[] penalties = {0, 1, 99};
        for (int penalty : penalties) {
            PromiseMarket other = Setups.market("process 100 0 0; promise 0 2 1 2;");
            other.setRules(penalty, 0);
            due("wasted all the same", other.run(1), 1);
            due("the penalty " + penalty, other.bank(), (long) penalty);
            due("the holder's money", other.process(0, 0), 100 - penalty);
        }
    }

    private void bankAtFirstAndUnlimited() {
        quote(PLACE, "The bank has nothing at first.");
        due("of a new object", new PromiseMarket().bank(), 0L);
        due("with processes", offer(5, 5).bank(), 0L);
        quote(PLACE, "What goes to the bank is unlimited.");
        PromiseMarket market = Setups.market("fee 50; process 1000000 0 0; process 1000000 0 0; process 1000000 0 0;"
                + "process 1000000 0 0; promise 0 4 1 4;");
        for (int i = 1; i <= 30; i++) {
            market.ask(0, 99999);
            market.buy(0, i % 4);
            due("behind " + i + " sales", market.bank(), i * 49999L);
        }
    }

    // ---- promises 20 to 23

    private void askInPlaceOfAnEarlierPrice() {
        quote("Promise 20", "Asks a price for a promise, in place of an earlier one.");
        PromiseMarket market = offer(9, 50);
        market.ask(0, 12);
        due("the price", market.told(0, 9), 12);
        market.buy(0, 1);
        due("what the buyer paid", market.process(1, 0), 38);
        market.ask(0, 8);
        market.ask(0, PromiseMarket.NONE);
        dueState("no price any more", () -> market.buy(0, 2));
        quote("Promise 20", "Returns the price that was asked before (NONE without one).");
        due("without one", market.ask(0, 5), -1);
        due("5", market.ask(0, 0), 5);
        due("0", market.ask(0, 99999), 0);
        due("99999", market.ask(0, 99999), 99999);
        due("99999 again", market.ask(0, -1), 99999);
        due("without one again", market.ask(0, -1), -1);
        due("one that the text asked", offer(9, 50).ask(0, 1), 9);
        market.ask(0, 6);
        market.buy(0, 2);
        due("the price of the previous owner is gone", market.ask(0, 1), -1);
    }

    private void askRange() {
        quote("Promise 20", "price: 0 to 99999, or NONE for no price");
        PromiseMarket market = offer(9, 50);
        dueArgument("-2", () -> market.ask(0, -2));
        dueArgument("100000", () -> market.ask(0, 100000));
        due("the price then", market.told(0, 9), 9);
        market.ask(0, 0);
        due("0 is a price", market.buy(0, 1), 0);
    }

    private void buy() {
        quote("Promise 21", "Lets a process buy a promise.");
        PromiseMarket market = Setups.market("process 0 0 0; process 50 0 0; process 50 0 0;"
                + "promise 0 4 1 4 ask 5; promise 0 4 1 4 ask 6; promise 2 4 1 4 ask 7;");
        market.buy(1, 2);
        due("the owners", market.told(0, 1) + " " + market.told(1, 1) + " " + market.told(2, 1), "0 2 2");
        due("the other price stays", market.told(0, 9), 5);
        quote("Promise 21", "Returns the previous owner.");
        due("of promise 0", market.buy(0, 1), 0);
        due("of promise 2", market.buy(2, 1), 2);
        market.ask(2, 0);
        due("of promise 2, back again", market.buy(2, 2), 1);
    }

    private void buyCheapestOfOthers() {
        quote("Promise 22", "Lets a process buy the cheapest promise: of the promises of others for which a price is "
                + "asked that it can pay,");
        PromiseMarket market = Setups.market("process 0 0 0; process 30 0 0; promise 1 120 9 120 ask 1;"
                + "promise 0 120 9 120; promise 0 120 9 120 ask 3; promise 0 120 9 120 ask 31; promise 0 120 1 120 ask 30;");
        market.end(2);
        due("its own, one without a price, an ended one, and one that costs 1 too much", market.buyCheapest(1), 4);
        due("the buyer paid", market.process(1, 0), 0);
        due("the owner then", market.told(4, 1), 1);
        due("the owner got the price less the fee", market.process(0, 0), 27);
        due("the bank", market.bank(), 3L);
        due("a sale", market.sales(0, 1), 1);
        due("the mean price", market.meanPrice(), 30.0f);
    }

    private void buyCheapestOfSeveral() {
        quote("Promise 22", "the one with the least price,");
        PromiseMarket market = Setups.market("process 0 0 0; process 900 0 0; process 0 0 0; promise 0 120 9 120 ask 8;"
                + "promise 2 120 1 120 ask 7; promise 0 120 9 120 ask 9;");
        due("7 of 8, 7 and 9", market.buyCheapest(1), 1);
        due("8 of 8 and 9", market.buyCheapest(1), 0);
        due("9", market.buyCheapest(1), 2);
        due("0 is the least", offer(0, 0).buyCheapest(1), 0);
        quote("Promise 22", "of several the one with the greatest budget,");
        PromiseMarket budgets = Setups.market("process 0 0 0; process 900 0 0; promise 0 120 3 120 ask 8;"
                + "promise 0 120 5 5 ask 8; promise 0 60 4 60 ask 8;");
        due("5 of 3, 5 and 4", budgets.buyCheapest(1), 1);
        due("4 of 3 and 4", budgets.buyCheapest(1), 2);
        due("3", budgets.buyCheapest(1), 0);
        quote("Promise 22", "then the lowest one.");
        PromiseMarket alike = Setups.market("process 0 0 0; process 900 0 0; promise 0 120 3 120 ask 8;"
                + "promise 0 120 4 120 ask 8; promise 0 60 4 60 ask 8; promise 0 120 4 100 ask 8;");
        due("the first of three", alike.buyCheapest(1), 1);
        due("the first of two", alike.buyCheapest(1), 2);
        due("the last", alike.buyCheapest(1), 3);
    }

    private void buyCheapestOfNone() {
        quote("Promise 22", "Returns the promise; NONE if there is none (nothing happens then).");
        due("the promise", offer(5, 5).buyCheapest(1), 0);
        PromiseMarket[] markets = {offer(5, 4), Setups.market("process 9 0 0; process 9 0 0;"),
            Setups.market("process 9 0 0; process 9 0 0; promise 0 4 1 4; promise 1 4 1 4 ask 0;")};
        String[] reasons = {"1 too dear", "no promises", "no price of another one"};
        for (int i = 0; i < markets.length; i++) {
            String before = Setups.everythingOf(markets[i]);
            due(reasons[i], markets[i].buyCheapest(1), -1);
            due("everything then", Setups.everythingOf(markets[i]), before);
        }
        dueIndex("none, and no such process", () -> markets[1].buyCheapest(2));
    }

    private void lease() {
        quote("Promise 23", "Leases a promise; the lessee pays the price of all jobs to the owner at once, without a fee.");
        PromiseMarket market = offer(5, 100);
        market.lease(0, 1, 3, 7);
        due("the money", monies(market), "21 79 0");
        due("the lessee", market.told(0, 10), 1);
        due("the jobs", market.told(0, 11), 3);
        due("the owner", market.told(0, 1), 0);
        due("the price that is asked", market.told(0, 9), 5);
        due("it is no sale", market.count(6), 0);
        market.run(1);
        due("nothing is paid for a job itself, but the penalty", monies(market), "21 74 5");
        market.buy(0, 2);
        market.run(240);
        PromiseMarket sold = offer(5, 100);
        sold.buy(0, 2);
        sold.lease(0, 1, 1, 10);
        due("the owner of now gets it", sold.process(2, 0), 900000 - 5 + 10);
        quote("Promise 23", "Returns what the lessee paid.");
        due("of the market above, when its lease has ended", market.lease(0, 1, 2, 9), 18);
        due("for nothing", offer(5, 0).lease(0, 1, 50, 0), 0);
        due("50 jobs at 999", offer(5, 49950).lease(0, 1, 50, 999), 49950);
    }

    private void leaseAtItsEdges() {
        quote("Promise 23", "jobs: 1 to 50");
        due("1", offer(5, 10).lease(0, 1, 1, 10), 10);
        due("50", offer(5, 50).lease(0, 1, 50, 1), 50);
        dueArgument("0", () -> offer(5, 10).lease(0, 1, 0, 1));
        dueArgument("51", () -> offer(5, 10).lease(0, 1, 51, 0));
        quote("Promise 23", "price: 0 to 999, for each job");
        due("999", offer(5, 999).lease(0, 1, 1, 999), 999);
        dueArgument("-1", () -> offer(5, 10).lease(0, 1, 1, -1));
        dueArgument("1000", () -> offer(5, 2000).lease(0, 1, 1, 1000));
        quote("Promise 23", "or it has less money than it must pay");
        int[][] terms = {{1, 1}, {7, 13}, {50, 999}};
        for (int[] term : terms) {
            int sum = term[0] * term[1];
            due("just enough for " + sum, offer(5, sum).lease(0, 1, term[0], term[1]), sum);
            PromiseMarket less = offer(5, sum - 1);
            dueState("1 less than " + sum, () -> less.lease(0, 1, term[0], term[1]));
            due("the money then", monies(less), "0 " + (sum - 1) + " 0");
            due("not leased", less.told(0, 10), -1);
        }
    }

    // ---- promises 24 to 29

    private void sales() {
        quote("Promise 24", "Returns the number of sales from this seller to this buyer.");
        PromiseMarket market = offer(0, 0);
        due("without sales", market.sales(0, 1), 0);
        market.buy(0, 1);
        due("one", market.sales(0, 1), 1);
        due("none the other way", market.sales(1, 0), 0);
        due("none to itself", market.sales(0, 0), 0);
        market.ask(0, 0);
        market.buyCheapest(0);
        market.ask(0, 0);
        market.buy(0, 1);
        due("two", market.sales(0, 1), 2);
        due("one the other way", market.sales(1, 0), 1);
        PromiseMarket eight = new PromiseMarket();
        for (int i = 0; i < 8; i++) {
            eight.addProcess(9, 0, 0);
        }
        eight.promise(7, 4, 1, 4);
        eight.ask(0, 1);
        eight.buy(0, 6);
        due("between the last two", eight.sales(7, 6), 1);
        due("between the last two, the other way", eight.sales(6, 7), 0);
    }

    private void partners() {
        quote("Promise 25", "Returns the number of different pairs of seller and buyer.");
        PromiseMarket market = offer(0, 0);
        due("without sales", market.partners(), 0);
        int[] buyers = {1, 0, 1, 2, 0, 2, 1, 0};
        int[] due = {1, 2, 2, 3, 4, 5, 6, 6};
        for (int i = 0; i < buyers.length; i++) {
            market.ask(0, 0);
            market.buy(0, buyers[i]);
            due("behind " + (i + 1) + " sales", market.partners(), due[i]);
        }
        due("a lease makes none", market.lease(0, 2, 1, 0) + market.partners(), 6);
        market.end(0);
        due("when the promise has ended", market.partners(), 6);
    }

    private void meanPrice() {
        quote("Promise 26", "Returns the mean price of all sales: the sum of the prices divided by their number,");
        int[] prices = {10, 0, 5, 99999};
        float[] due = {10.0f, 5.0f, 5.0f, 25003.5f};
        PromiseMarket market = offer(0, 900000);
        for (int i = 0; i < prices.length; i++) {
            market.ask(0, prices[i]);
            market.buy(0, i % 2 == 0 ? 1 : 2);
            due("behind " + (i + 1) + " sales", market.meanPrice(), due[i]);
        }
        quote("Promise 26", "-1 without sales.");
        PromiseMarket none = offer(7, 900000);
        due("with a price that is asked", none.meanPrice(), -1.0f);
        none.lease(0, 1, 2, 2);
        due("with a lease", none.meanPrice(), -1.0f);
        none.ask(0, 0);
        none.buy(0, 1);
        due("with a sale for nothing", none.meanPrice(), 0.0f);
    }

    /** The sum of 169 times 99999 is odd and above 2^24, so it is another number in single precision. */
    private void meanPriceInSinglePrecision() {
        quote("Promise 26", "both converted to single precision;");
        PromiseMarket market = Setups.market("fee 0; process 1000000 0 0; process 1000000 0 0; promise 0 4 1 4;");
        for (int i = 1; i <= 169; i++) {
            market.ask(0, 99999);
            market.buy(0, i % 2);
        }
        due("of 169 sales for 99999", market.meanPrice(), 99999.0078125f);
        PromiseMarket third = offer(10, 100);
        third.buy(0, 1);
        third.ask(0, 0);
        third.buy(0, 2);
        third.ask(0, 0);
        third.buy(0, 1);
        due("a third of 10", third.meanPrice(), 3.3333333f);
    }

    private void setRules() {
        quote("Promise 27", "penalty: 0 to 99");
        PromiseMarket market = Setups.market("process 1000 0 0; process 1000 0 0; promise 0 2 2 2;");
        market.setRules(99, 10);
        market.run(1);
        due("99 for a wasted tick", market.bank(), 99L);
        market.setRules(0, 10);
        due("wasted for nothing", market.run(1), 1);
        due("0 for a wasted tick", market.bank(), 99L);
        due("PENALTY", market.count(4), 0);
        quote("Promise 27", "fee: 0 to 50");
        market.ask(0, 100);
        market.setRules(0, 50);
        market.buy(0, 1);
        due("50 of 100, as asked before", market.bank(), 149L);
        market.ask(0, 100);
        market.setRules(0, 0);
        market.buy(0, 0);
        due("nothing of 100", market.bank(), 149L);
        due("FEE", market.count(5), 0);
        dueArgument("FEE 51", () -> market.setRules(1, 51));
        dueArgument("PENALTY 100", () -> market.setRules(100, 1));
        due("the rules then", market.count(4) + " " + market.count(5), "0 0");
    }

    /** Ticks: 2 used, 3 sold, 4 wasted, 1 free, 5 idle; 6 sales are made before. */
    private static PromiseMarket figures() {
        PromiseMarket market = Setups.market("penalty 4; fee 12; process 100 2 0; process 90 3 7; process 50 0 0;"
                + "promise 0 120 9 9; promise 1 120 1 120; promise 1 120 1 120; promise 2 120 1 120;");
        market.end(1);
        market.end(2);
        market.end(3);
        for (int i = 0; i < 6; i++) {
            market.ask(0, 0);
            market.buy(0, (i + 1) % 2);
        }
        market.run(9);
        market.addWork(2, 1);
        market.run(6);
        return market;
    }

    private void count() {
        String[] names = {"0: time;", "1: processes;", "2: promises;", "3: promises that have not ended;", "4: PENALTY;",
            "5: FEE;", "6: sales;", "7: used ticks;", "8: sold ticks;", "9: wasted ticks;",
            "10: free ticks in which a process ran;", "11: idle ticks;", "12: missed jobs"};
        int[] due = {15, 3, 4, 1, 4, 12, 6, 2, 3, 4, 1, 5, 0};
        PromiseMarket market = figures();
        for (int what = 0; what < names.length; what++) {
            quote("Promise 28", names[what]);
            due("after all kinds of ticks", market.count(what), due[what]);
        }
        quote("Promise 28", "what:");
        dueArgument("-1", () -> market.count(-1));
        dueArgument("13", () -> market.count(13));
        quote("Promise 28", "Returns that number.");
        due("all at once", Setups.countsOf(market), "15 3 4 1 4 12 6 2 3 4 1 5 0");
    }

    private void countWithoutAny() {
        quote("Promise 28", "Returns that number.");
        due("all of a new object", Setups.countsOf(new PromiseMarket()), "0 0 0 0 5 10 0 0 0 0 0 0 0");
        quote("Promise 28", "11: idle ticks;");
        PromiseMarket nobody = new PromiseMarket();
        nobody.run(500);
        due("without processes", nobody.count(11), 500);
        PromiseMarket bought = Setups.market("process 9 0 0; process 9 1 1; promise 0 2 1 1; promise 1 2 1 2;");
        bought.run(2);
        due("a sold and a wasted tick are none", bought.count(8) + " " + bought.count(9) + " " + bought.count(11), "1 1 0");
        quote("Promise 28", "12: missed jobs");
        PromiseMarket full = Setups.market("process 9 0 0; promise 0 2 1 1; promise 0 4 1 2; promise 0 4 1 4;");
        full.run(500);
        due("when all ticks are promised", full.count(12), 0);
    }

    private void bank() {
        quote("Promise 29", "Returns what the bank has.");
        PromiseMarket market = Setups.market("penalty 9; process 20 0 0; process 100 0 0; promise 0 10 5 10 ask 100;");
        market.run(2);
        due("two penalties", market.bank(), 18L);
        market.run(2);
        due("all that was left", market.bank(), 20L);
        market.buy(0, 1);
        due("and a fee", market.bank(), 30L);
        market.lease(0, 0, 1, 9);
        due("but nothing of a lease", market.bank(), 30L);
        market.save(0);
        market.run(500);
        market.restore(0);
        due("as it was saved", market.bank(), 30L);
    }
}
