/** PROCESSES, and promises 1 to 7. */
final class ProcessesEdges extends Edges {
    private static final String PLACE = "PROCESSES";

    ProcessesEdges(Record record) {
        super(record);
    }

    @Override
    void test() {
        atMostEightProcesses();
        rangeOfMoney();
        rangeOfBacklog();
        bidIsWhatATickCosts();
        bidOfNothingBuysNone();
        arrivalAtMultiplesOfEvery();
        arrivalUpToTheMostBacklog();
        arrivalWithEveryNothing();
        moneyThatWouldBeGreater();
        newObject();
        addProcess();
        setBid();
        setArrival();
        addWork();
        pay();
        process();
        processCountsWhatTheRunnerDid();
        processOwns();
    }

    /** Process 1 uses each tick, so that nobody else runs. */
    private static PromiseMarket besideOneThatUsesAll(int money, int backlog, int bid) {
        return Setups.market("process " + money + " " + backlog + " " + bid
                + "; process 0 9999 0; promise 1 2 2 2;");
    }

    private void atMostEightProcesses() {
        quote(PLACE, "There are at most 8 processes, numbered from 0.");
        PromiseMarket market = new PromiseMarket();
        for (int i = 0; i < 8; i++) {
            dueIndex("process " + i + " before it is added", processCall(market, i));
            due("the number of process " + i, market.addProcess(i, 0, 0), i);
            due("its money", market.process(i, 0), i);
        }
        dueState("one more", () -> market.addProcess(0, 0, 0));
        dueIndex("process 8", () -> market.process(8, 0));
        due("count(1)", market.count(1), 8);
    }

    private static Check.Order processCall(PromiseMarket market, int process) {
        return () -> market.process(process, 0);
    }

    private void rangeOfMoney() {
        quote(PLACE, "A process has money (0 to 1000000)");
        PromiseMarket market = new PromiseMarket();
        market.addProcess(0, 0, 0);
        market.addProcess(1000000, 0, 0);
        due("the least", market.process(0, 0), 0);
        due("the most", market.process(1, 0), 1000000);
        dueArgument("1 less", () -> market.addProcess(-1, 0, 0));
        dueArgument("1 more", () -> market.addProcess(1000001, 0, 0));
    }

    private void rangeOfBacklog() {
        quote(PLACE, ", a backlog (the ticks of work that wait, 0 to 9999)");
        PromiseMarket market = new PromiseMarket();
        market.addProcess(0, 0, 0);
        market.addProcess(0, 9999, 0);
        due("the least", market.process(0, 1), 0);
        due("the most", market.process(1, 1), 9999);
        dueArgument("1 less", () -> market.addProcess(0, -1, 0));
        dueArgument("1 more", () -> market.addProcess(0, 10000, 0));
        market.run(500);
        due("one tick of work a tick", market.process(1, 1), 9499);
    }

    private void bidIsWhatATickCosts() {
        quote(PLACE, ", a bid (what it pays for a single tick, 0 to 99;");
        int[] bids = {1, 2, 98, 99};
        for (int bid : bids) {
            PromiseMarket market = Setups.market("process 7 0 0; process 500 1 " + bid + "; promise 0 2 1 2;");
            due("wasted ticks at the bid " + bid, market.run(1), 0);
            due("money of the buyer at the bid " + bid, market.process(1, 0), 500 - bid);
            due("money of the holder at the bid " + bid, market.process(0, 0), 7 + bid);
        }
        PromiseMarket market = new PromiseMarket();
        dueArgument("a bid of -1", () -> market.addProcess(0, 0, -1));
        dueArgument("a bid of 100", () -> market.addProcess(0, 0, 100));
        due("a bid of 0", market.addProcess(0, 0, 0), 0);
        due("a bid of 99", market.addProcess(0, 0, 99), 1);
    }

    private void bidOfNothingBuysNone() {
        quote(PLACE, "with 0 it buys none)");
        PromiseMarket market = Setups.market("process 7 0 0; process 500 1 0; promise 0 2 1 2;");
        due("wasted ticks", market.run(1), 1);
        due("its bought ticks", market.process(1, 6), 0);
        due("its backlog", market.process(1, 1), 1);
        PromiseMarket other = Setups.market("process 7 0 0; process 500 1 1; promise 0 2 1 2;");
        due("wasted ticks at the bid 1", other.run(1), 0);
    }

    private void arrivalAtMultiplesOfEvery() {
        quote(PLACE, "and an arrival (in each tick whose time is a multiple of EVERY, 0 to 60, AMOUNT, 0 to 60, "
                + "is added to its backlog,");
        int[][] arrivals = {{1, 60}, {2, 60}, {7, 1}, {59, 60}, {60, 60}, {60, 1}, {60, 0}, {1, 0}};
        for (int[] arrival : arrivals) {
            PromiseMarket market = besideOneThatUsesAll(0, 5, 0);
            market.setArrival(0, arrival[0], arrival[1]);
            int due = 5;
            for (int time = 0; time <= 122; time++) {
                due += time % arrival[0] == 0 ? arrival[1] : 0;
                market.run(1);
                due(arrival[1] + " every " + arrival[0] + " behind the tick " + time, market.process(0, 1), due);
            }
        }
        PromiseMarket market = besideOneThatUsesAll(0, 5, 0);
        dueArgument("EVERY -1", () -> market.setArrival(0, -1, 1));
        dueArgument("EVERY 61", () -> market.setArrival(0, 61, 1));
        dueArgument("AMOUNT -1", () -> market.setArrival(0, 1, -1));
        dueArgument("AMOUNT 61", () -> market.setArrival(0, 1, 61));
    }

    private void arrivalUpToTheMostBacklog() {
        quote(PLACE, "which is at most 9999;");
        int[][] backlogs = {{9938, 9998}, {9939, 9999}, {9940, 9999}, {9998, 9999}, {9999, 9999}};
        for (int[] backlog : backlogs) {
            PromiseMarket market = besideOneThatUsesAll(0, backlog[0], 0);
            market.setArrival(0, 1, 60);
            market.run(1);
            due("60 more than " + backlog[0], market.process(0, 1), backlog[1]);
        }
    }

    private void arrivalWithEveryNothing() {
        quote(PLACE, "with EVERY 0 nothing is added)");
        PromiseMarket market = besideOneThatUsesAll(0, 5, 0);
        market.setArrival(0, 0, 60);
        market.run(1);
        due("in the tick 0", market.process(0, 1), 5);
        market.run(130);
        due("in any tick", market.process(0, 1), 5);
        due("AMOUNT all the same", market.process(0, 4), 60);
    }

    private void moneyThatWouldBeGreater() {
        quote(PLACE, "Money that would be greater than 1000000 is 1000000.");
        int[][] monies = {{999989, 999999}, {999990, 1000000}, {999991, 1000000}, {1000000, 1000000}};
        for (int[] money : monies) {
            PromiseMarket paid = Setups.market("process " + money[0] + " 0 0;");
            paid.pay(0, 10);
            due("paid 10, " + money[0] + " before", paid.process(0, 0), money[1]);

            PromiseMarket tick = Setups.market("process " + money[0] + " 0 0; process 50 1 10; promise 0 2 1 2;");
            tick.run(1);
            due("sold a tick for 10, " + money[0] + " before", tick.process(0, 0), money[1]);

            PromiseMarket sold = Setups.market("process " + money[0] + " 0 0; process 50 0 0; promise 0 2 1 2 ask 11;");
            sold.buy(0, 1);
            due("sold a promise for 11 less 1, " + money[0] + " before", sold.process(0, 0), money[1]);

            PromiseMarket leased = Setups.market("process " + money[0] + " 0 0; process 50 0 0; promise 0 2 1 2;");
            leased.lease(0, 1, 2, 5);
            due("leased for 2 times 5, " + money[0] + " before", leased.process(0, 0), money[1]);
        }
    }

    // ---- promises 1 to 7

    private void newObject() {
        quote("Promise 1", "Creates a scheduler at the time 0");
        due("count(0)", new PromiseMarket().count(0), 0);
        quote("Promise 1", "without processes and promises,");
        PromiseMarket market = new PromiseMarket();
        due("processes", market.count(1), 0);
        due("promises", market.count(2), 0);
        due("promises that have not ended", market.count(3), 0);
        dueIndex("process 0", () -> market.process(0, 0));
        dueIndex("promise 0", () -> market.told(0, 0));
        quote("Promise 1", "with an empty text buffer");
        dueArgument("truncateText(1)", () -> market.truncateText(1));
        due("truncateText(0)", market.truncateText(0), 0);
        due("the length behind four bytes", market.appendText(0x66656520), 4);
        quote("Promise 1", "and no saved states.");
        dueState("restore(0)", () -> market.restore(0));
        dueState("restore(1)", () -> market.restore(1));
    }

    private void addProcess() {
        quote("Promise 2", "Adds a process without arrivals.");
        PromiseMarket market = new PromiseMarket();
        market.addProcess(3, 5, 2);
        due("all figures", Setups.processOf(market, 0), "3 5 2 0 0 0 0 0 0 0 0 0");
        market.run(1);
        due("its backlog behind a free tick", market.process(0, 1), 4);
        quote("Promise 2", "Returns the number of the process.");
        due("the second", market.addProcess(3, 5, 2), 1);
        due("the third, just the same", market.addProcess(3, 5, 2), 2);
    }

    private void setBid() {
        PromiseMarket market = Setups.market("process 50 9 4; process 50 9 5; process 0 0 0; promise 2 2 2 2;");
        quote("Promise 3", "Sets the bid of a process.");
        market.setBid(0, 6);
        market.run(1);
        due("told", market.process(0, 2), 6);
        due("it buys the next tick", market.process(0, 6), 1);
        due("for that bid", market.process(0, 0), 44);
        due("the bid of another one", market.process(1, 2), 5);
        quote("Promise 3", "Returns the previous bid.");
        due("6 then", market.setBid(0, 0), 6);
        due("0 then", market.setBid(0, 99), 0);
        due("99 then", market.setBid(0, 99), 99);
        due("99 again", market.setBid(0, 1), 99);
    }

    private void setArrival() {
        quote("Promise 4", "Sets the arrival of a process.");
        PromiseMarket market = besideOneThatUsesAll(0, 0, 0);
        market.setArrival(0, 2, 7);
        market.run(3);
        due("7 at the times 0 and 2", market.process(0, 1), 14);
        market.setArrival(0, 3, 10);
        market.run(4);
        due("then 10 at the times 3 and 6", market.process(0, 1), 34);
        due("EVERY", market.process(0, 3), 3);
        due("AMOUNT", market.process(0, 4), 10);
        due("EVERY of another one", market.process(1, 3), 0);
    }

    private void addWork() {
        int[][] works = {{8998, 1000, 9998}, {8999, 1000, 9999}, {9000, 1000, 9999}, {9998, 1, 9999},
            {9999, 1, 9999}, {0, 1, 1}, {0, 1000, 1000}};
        quote("Promise 5", "Adds to the backlog of a process, which is at most 9999.");
        for (int[] work : works) {
            PromiseMarket market = Setups.market("process 0 " + work[0] + " 0; process 0 1 0;");
            market.addWork(0, work[1]);
            due(work[0] + " and " + work[1], market.process(0, 1), work[2]);
            due("another one", market.process(1, 1), 1);
        }
        quote("Promise 5", "Returns its backlog then.");
        for (int[] work : works) {
            PromiseMarket market = Setups.market("process 0 " + work[0] + " 0;");
            due(work[0] + " and " + work[1], market.addWork(0, work[1]), work[2]);
        }
    }

    private void pay() {
        int[][] payments = {{0, 1, 1}, {0, 10000, 10000}, {990000, 10000, 1000000}, {990001, 10000, 1000000},
            {999999, 1, 1000000}, {1000000, 1, 1000000}, {1000000, 10000, 1000000}};
        quote("Promise 6", "Gives money to a process.");
        for (int[] payment : payments) {
            PromiseMarket market = Setups.market("process " + payment[0] + " 0 0; process 1 0 0;");
            market.pay(0, payment[1]);
            due(payment[0] + " and " + payment[1], market.process(0, 0), payment[2]);
            due("another one", market.process(1, 0), 1);
            due("the bank", market.bank(), 0L);
        }
        quote("Promise 6", "Returns its money then.");
        for (int[] payment : payments) {
            PromiseMarket market = Setups.market("process " + payment[0] + " 0 0;");
            due(payment[0] + " and " + payment[1], market.pay(0, payment[1]), payment[2]);
        }
    }

    /** The job of process 0 has ten ticks: it uses 2, sells 3 for 7 each and wastes 5; then come free ticks. */
    private static PromiseMarket figures() {
        PromiseMarket market = Setups.market("penalty 4; process 100 2 6 every 50 0; process 90 3 7 every 40 2;"
                + "process 0 0 0; promise 0 120 10 10; promise 1 120 1 120; promise 0 120 1 120;");
        market.setArrival(1, 60, 0);
        market.end(1);
        market.end(2);
        market.run(10);
        market.addWork(0, 4);
        market.run(3);
        return market;
    }

    private void process() {
        String[] names = {"0: money;", "1: backlog;", "2: bid;", "3: EVERY;", "4: AMOUNT;",
            "5: used ticks in which it ran;", "6: sold ticks that it bought;", "7: free ticks in which it ran;",
            "8: the sum of the bids for which it sold ticks;", "9: the sum of the bids for which it bought ticks;",
            "10: the sum of the penalties that it paid;", "11: promises that it owns and that have not ended"};
        int[] seller = {101, 1, 6, 50, 0, 2, 0, 3, 21, 0, 20, 1};
        int[] buyer = {69, 0, 7, 60, 0, 0, 3, 0, 0, 21, 0, 0};
        PromiseMarket market = figures();
        for (int what = 0; what < names.length; what++) {
            quote("Promise 7", names[what]);
            due("of the seller", market.process(0, what), seller[what]);
            due("of the buyer", market.process(1, what), buyer[what]);
            due("of one that did nothing", market.process(2, what), 0);
        }
        quote("Promise 7", "what:");
        dueArgument("-1", () -> market.process(0, -1));
        dueArgument("12", () -> market.process(0, 12));
        quote("Promise 7", "Returns that number.");
        market.setArrival(1, 1, 60);
        due("AMOUNT", market.process(1, 4), 60);
        due("all of the seller", Setups.processOf(market, 0), "101 1 6 50 0 2 0 3 21 0 20 1");
    }

    private void processCountsWhatTheRunnerDid() {
        quote("Promise 7", "5: used ticks in which it ran;");
        PromiseMarket leased = Setups.market("process 9 5 0; process 9 5 0; promise 0 4 2 4;");
        leased.lease(0, 1, 1, 0);
        leased.run(2);
        due("of the lessee", leased.process(1, 5), 2);
        due("of the owner", leased.process(0, 5), 0);
        quote("Promise 7", "8: the sum of the bids for which it sold ticks;");
        PromiseMarket rich = Setups.market("process 1000000 0 0; process 100 2 30; promise 0 4 2 4;");
        rich.run(2);
        due("of a holder that can hold nothing more", rich.process(0, 8), 60);
        quote("Promise 7", "10: the sum of the penalties that it paid;");
        PromiseMarket poor = Setups.market("penalty 4; process 9 0 0; promise 0 4 4 4;");
        poor.run(4);
        due("4, 4, 1 and nothing", poor.process(0, 10), 9);
    }

    private void processOwns() {
        quote("Promise 7", "11: promises that it owns and that have not ended");
        PromiseMarket market = Setups.market("process 9 0 0; process 9 0 0; process 9 0 0;"
                + "promise 0 120 2 120 ask 1; promise 0 120 2 120; promise 0 120 2 120;");
        due("three", market.process(0, 11), 3);
        market.lease(1, 2, 5, 0);
        due("a leased one is its own", market.process(0, 11), 3);
        due("a lessee owns none", market.process(2, 11), 0);
        market.buy(0, 1);
        due("one is sold", market.process(0, 11), 2);
        due("the buyer's", market.process(1, 11), 1);
        market.split(0, 1);
        due("the buyer's, split", market.process(1, 11), 2);
        market.end(1);
        market.end(2);
        due("two have ended", market.process(0, 11), 0);
    }
}
