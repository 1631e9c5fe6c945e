/** A TICK, and promises 30 to 33. */
final class TickEdges extends Edges {
    private static final String PLACE = "A TICK";
    private static final String EARLIEST = "3. CHOICE: of all jobs that have something of their budget left, the one with "
            + "the earliest absolute deadline is chosen,";
    private static final String FREE = "the process with a backlog that comes next behind the one that had the latest "
            + "free tick";
    private static final String BUYERS = "Otherwise, of all other processes with a backlog, a bid of at least 1 and at "
            + "least as much money as their bid,";

    TickEdges(Record record) {
        super(record);
    }

    @Override
    void test() {
        arrivals();
        releases();
        earliestDeadline();
        absoluteDeadline();
        onlyJobsWithSomethingLeft();
        lowestPromiseOfSeveral();
        budgetIs1Less();
        holderRuns();
        buyersNeedBacklogBidAndMoney();
        otherProcessesAlone();
        highestBid();
        lowestProcessOfSeveral();
        bidGoesToTheHolder();
        wastedTick();
        freeTickIfNoJobCanBeChosen();
        freeTicksInTurn();
        freeTicksBehindOthers();
        idleTick();
        timeGrows();
        noJobIsMissed();
        run();
        ticksToFinish();
        ticksToFinishOrNone();
        moneyAfter();
        bestBid();
        bestBidOfSeveral();
    }

    /** The used ticks of each promise. */
    private static String used(PromiseMarket market) {
        StringBuilder told = new StringBuilder();
        for (int i = 0; i < market.count(2); i++) {
            told.append(i == 0 ? "" : " ").append(market.told(i, 12));
        }
        return told.toString();
    }

    private static String figures(PromiseMarket market, int what) {
        StringBuilder told = new StringBuilder();
        for (int i = 0; i < market.count(1); i++) {
            told.append(i == 0 ? "" : " ").append(market.process(i, what));
        }
        return told.toString();
    }

    private static String bought(PromiseMarket market) {
        return figures(market, 6);
    }

    private void arrivals() {
        quote(PLACE, "1. ARRIVALS: the processes, by ascending numbers, get their arrivals, if EVERY is not 0 and the "
                + "time is a multiple of it.");
        PromiseMarket market = Setups.market("process 0 0 0 every 3 1; process 9 0 2 every 3 1; process 9 0 3 every 3 1;"
                + "promise 0 3 3 3;");
        market.run(3);
        due("what came in the tick 0 is used in it", market.told(0, 12), 1);
        due("and bought in the ticks 1 and 2", bought(market), "0 1 1");
        market.run(1);
        due("what came in the tick 3 is used in it", market.told(0, 12), 2);
        PromiseMarket bids = Setups.market("process 0 0 0; process 9 0 2 every 1 1; promise 0 2 2 2;");
        bids.run(2);
        due("what came in a tick is bought in it", bought(bids), "0 2");
        PromiseMarket eight = new PromiseMarket();
        for (int i = 0; i < 8; i++) {
            eight.addProcess(0, 0, 0);
            eight.setArrival(i, i, 10);
        }
        eight.promise(0, 2, 2, 2);
        eight.run(1);
        due("all but the one with EVERY 0 at the time 0", figures(eight, 1), "0 10 10 10 10 10 10 10");
        eight.run(6);
        due("and those whose multiples are 1 to 6", figures(eight, 1), "0 70 40 30 20 20 20 10");
    }

    private void releases() {
        quote(PLACE, "2. RELEASES: the promises, by ascending numbers, that have not ended and whose next release is now, "
                + "release a job.");
        PromiseMarket market = Setups.market("process 0 9 0; promise 0 2 1 1; promise 0 8 1 4; promise 0 8 1 8; promise 0 4 1 4;");
        market.end(2);
        String[] released = {"1 1 0 1", "1 1 0 1", "2 1 0 1", "2 1 0 1", "3 1 0 2"};
        for (int time = 0; time < released.length; time++) {
            market.run(1);
            due("jobs behind the tick " + time, market.told(0, 15) + " " + market.told(1, 15) + " " + market.told(2, 15)
                    + " " + market.told(3, 15), released[time]);
        }
        PromiseMarket first = Setups.market("process 0 9 0; promise 0 2 1 1;");
        first.run(1);
        due("a job is used in the tick of its release", used(first), "1");
    }

    private void earliestDeadline() {
        quote(PLACE, EARLIEST);
        PromiseMarket market = Setups.market(
                "process 0 99 0; promise 0 30 2 9; promise 0 30 2 7; promise 0 30 2 8; promise 0 30 1 6;");
        String[] order = {"0 0 0 1", "0 1 0 1", "0 2 0 1", "0 2 1 1", "0 2 2 1", "1 2 2 1", "2 2 2 1"};
        for (int time = 0; time < order.length; time++) {
            market.run(1);
            due("used ticks behind the tick " + time, used(market), order[time]);
        }
    }

    private void absoluteDeadline() {
        quote(PLACE, EARLIEST);
        PromiseMarket earlier = Setups.market("process 0 99 0; promise 0 120 3 6;");
        earlier.run(2);
        earlier.promise(0, 120, 1, 3);
        earlier.run(1);
        due("due at 5 before due at 6", used(earlier), "2 1");
        PromiseMarket later = Setups.market("process 0 99 0; promise 0 120 3 6;");
        later.run(2);
        later.promise(0, 120, 1, 5);
        later.run(1);
        due("due at 6 before due at 7, which has the shorter time", used(later), "3 0");
        later.run(1);
        due("then due at 7", used(later), "3 1");
    }

    private void onlyJobsWithSomethingLeft() {
        quote(PLACE, EARLIEST);
        PromiseMarket market = Setups.market("process 0 99 0; promise 0 30 1 20; promise 0 30 1 30;");
        market.run(2);
        due("the first one has nothing left", used(market), "1 1");
        market.run(1);
        due("none has anything left", used(market), "1 1");
        due("so the tick is free", market.count(10), 1);
    }

    private void lowestPromiseOfSeveral() {
        quote(PLACE, "of several the one of the lowest promise.");
        PromiseMarket market = Setups.market("process 0 99 0; promise 0 30 2 9; promise 0 30 1 8; promise 0 60 2 9; promise 0 120 1 9;");
        String[] order = {"0 1 0 0", "1 1 0 0", "2 1 0 0", "2 1 1 0", "2 1 2 0", "2 1 2 1"};
        for (int time = 0; time < order.length; time++) {
            market.run(1);
            due("used ticks behind the tick " + time, used(market), order[time]);
        }
        PromiseMarket late = Setups.market("process 0 99 0; promise 0 4 1 4; promise 0 8 4 8;");
        late.run(4);
        due("due at 4, then 8", used(late), "1 3");
        late.run(1);
        due("both are due at 8, and the lowest one came later", used(late), "2 3");
        PromiseMarket again = Setups.market("process 0 99 0; promise 0 120 3 6;");
        again.run(2);
        again.promise(0, 120, 1, 4);
        again.run(1);
        due("both are due at 6, and the lowest one has begun", used(again), "3 0");
    }

    private void budgetIs1Less() {
        quote(PLACE, "Its budget is 1 less then.");
        PromiseMarket market = Setups.market("process 9 1 0; process 9 1 1; promise 0 20 3 20; promise 0 20 2 20;");
        String[] left = {"2 2", "1 2", "0 2", "0 1", "0 0", "0 0"};
        for (int time = 0; time < left.length; time++) {
            market.run(1);
            due("behind the tick " + time + " (used, sold, wasted, wasted, wasted, idle)",
                    market.told(0, 6) + " " + market.told(1, 6), left[time]);
        }
        due("the budget of the promise itself", market.told(0, 3), 3);
        market.run(15);
        due("the next job has all of it", market.told(0, 6), 2);
    }

    private void holderRuns() {
        quote(PLACE, "If its holder has a backlog, the holder runs: its backlog is 1 less (a used tick of the promise).");
        PromiseMarket market = Setups.market("process 7 2 0; process 990 9 99; promise 0 20 3 20;");
        market.run(1);
        due("backlog", figures(market, 1), "1 9");
        due("used ticks", market.told(0, 12) + " " + market.count(7) + " " + market.process(0, 5), "1 1 1");
        market.run(1);
        due("the last of its backlog, though another one bids", figures(market, 1), "0 9");
        due("nobody pays", figures(market, 0), "7 990");
        market.run(1);
        due("without backlog it does not run", figures(market, 1), "0 8");
        due("used ticks then", market.told(0, 12) + " " + market.count(7) + " " + market.process(0, 5), "2 2 2");
        PromiseMarket leased = Setups.market("process 0 9 0; process 0 9 0; promise 0 20 3 20;");
        leased.lease(0, 1, 1, 0);
        leased.run(3);
        due("the holder is the lessee", figures(leased, 5), "0 3");
    }

    private void buyersNeedBacklogBidAndMoney() {
        quote(PLACE, BUYERS);
        String[][] others = {{"0 1 1", "0"}, {"1 1 1", "1"}, {"1 0 1", "0"}, {"1 1 0", "0"}, {"0 1 0", "0"},
            {"98 1 99", "0"}, {"99 1 99", "1"}, {"100 1 99", "1"}, {"1000000 0 99", "0"}, {"1000000 9999 0", "0"}};
        for (String[] other : others) {
            PromiseMarket market = Setups.market("process 9 0 0; process " + other[0] + "; promise 0 2 1 2;");
            market.run(1);
            due("money, backlog and bid " + other[0], bought(market), "0 " + other[1]);
            due("otherwise wasted", market.count(8) + market.count(9), 1);
        }
        PromiseMarket market = Setups.market("process 9 0 0; process 29 9 30; process 99 0 98; process 99 9 0;"
                + "process 5 9 4; process 3 9 3; promise 0 20 3 20;");
        market.run(1);
        due("the highest bid of those that can buy", bought(market), "0 0 0 0 1 0");
        market.run(1);
        due("it has 1 left, so the next one buys", bought(market), "0 0 0 0 1 1");
        due("nobody else can", market.run(1), 1);
    }

    private void otherProcessesAlone() {
        quote(PLACE, BUYERS);
        PromiseMarket market = Setups.market("process 90 0 99; process 90 5 1; promise 0 4 1 4; promise 1 4 1 4;");
        market.run(1);
        due("the holder bids most, but has no backlog", bought(market), "0 1");
        market.addWork(0, 1);
        market.run(1);
        due("the next holder has a backlog, so nobody buys", bought(market), "0 1");
        PromiseMarket leased = Setups.market("process 90 3 10; process 90 0 99; promise 0 4 1 4;");
        leased.lease(0, 1, 1, 0);
        leased.run(1);
        due("the owner buys of the holder", bought(leased), "1 0");
        due("and pays it", figures(leased, 0), "80 100");
    }

    private void highestBid() {
        quote(PLACE, "the one with the highest bid buys the tick,");
        String[] bids = {"1 2 3", "3 2 1", "2 3 1", "98 99 97", "1 99 98"};
        int[] highest = {3, 1, 2, 2, 2};
        for (int i = 0; i < bids.length; i++) {
            String[] bid = bids[i].split(" ");
            PromiseMarket market = Setups.market("process 0 0 0; process 500 1 " + bid[0] + "; process 500 1 " + bid[1]
                    + "; process 500 1 " + bid[2] + "; promise 0 2 1 2;");
            market.run(1);
            due("of the bids " + bids[i] + " of processes 1 to 3", market.process(highest[i], 6), 1);
            due("and no other", market.count(8), 1);
        }
    }

    private void lowestProcessOfSeveral() {
        quote(PLACE, "of several the lowest one:");
        PromiseMarket market = Setups.market("process 500 1 7; process 500 1 9; process 0 0 0; process 500 1 9; "
                + "process 500 1 9; promise 2 8 4 8;");
        String[] order = {"0 1 0 0 0", "0 1 0 1 0", "0 1 0 1 1", "1 1 0 1 1"};
        for (int time = 0; time < order.length; time++) {
            market.run(1);
            due("bought ticks behind the tick " + time, bought(market), order[time]);
        }
    }

    private void bidGoesToTheHolder() {
        quote(PLACE, "it pays its bid to the holder (what the holder cannot hold is lost), and its backlog is 1 less "
                + "(a sold tick).");
        int[][] monies = {{0, 30}, {999970, 1000000}, {999971, 1000000}, {999999, 1000000}, {1000000, 1000000}};
        for (int[] money : monies) {
            PromiseMarket market = Setups.market("process " + money[0] + " 0 0; process 100 5 30; promise 0 4 1 4;");
            market.run(1);
            due("the holder that had " + money[0], market.process(0, 0), money[1]);
            due("the buyer", market.process(1, 0), 70);
            due("nothing for the bank", market.bank(), 0L);
            due("the backlog of the buyer", market.process(1, 1), 4);
            due("a sold tick", market.told(0, 13) + " " + market.count(8) + " " + market.process(1, 6), "1 1 1");
            due("the sums of bids", market.process(0, 8) + " " + market.process(1, 9), "30 30");
            due("no used tick", market.count(7) + market.process(1, 5), 0);
        }
    }

    private void wastedTick() {
        quote(PLACE, "If there is none, the tick is wasted, and the holder pays PENALTY to the bank, or all its money, if "
                + "it has less.");
        int[][] monies = {{0, 5, 0}, {4, 5, 4}, {5, 5, 5}, {6, 5, 5}, {98, 99, 98}, {99, 99, 99}, {1000000, 99, 99},
            {7, 0, 0}, {0, 0, 0}};
        for (int[] money : monies) {
            PromiseMarket market = Setups.market("penalty " + money[1] + "; process " + money[0]
                    + " 0 9; process 500 1 0; promise 0 4 1 4;");
            String what = "money " + money[0] + " and PENALTY " + money[1];
            due(what + ", wasted ticks", market.run(1), 1);
            due(what + ", the holder", market.process(0, 0), money[0] - money[2]);
            due(what + ", the bank", market.bank(), (long) money[2]);
            due(what + ", the paid penalties", market.process(0, 10), money[2]);
            due(what + ", told", market.told(0, 14) + " " + market.count(9), "1 1");
            due(what + ", nobody runs", figures(market, 1), "0 1");
        }
        PromiseMarket leased = Setups.market("process 9 0 0; process 9 0 0; promise 0 4 1 4;");
        leased.lease(0, 1, 1, 0);
        leased.run(1);
        due("the lessee pays", figures(leased, 0), "9 4");
    }

    private void freeTickIfNoJobCanBeChosen() {
        quote(PLACE, "If no job can be chosen, the tick is free:");
        PromiseMarket market = Setups.market("process 50 0 0; process 50 9 9; promise 0 4 1 4;");
        market.run(4);
        due("one sold and three free ticks", figures(market, 6) + ", " + figures(market, 7), "0 1, 0 3");
        due("nothing is paid in free ticks", figures(market, 0), "59 41");
        PromiseMarket none = Setups.market("process 50 9 0;");
        none.run(3);
        due("without promises", none.process(0, 7), 3);
    }

    private void freeTicksInTurn() {
        quote(PLACE, "(cyclically; first process 0, if there was none yet) runs, and its backlog is 1 less;");
        PromiseMarket first = Setups.market("process 0 2 0; process 0 9 0;");
        first.run(1);
        due("process 0 comes first", figures(first, 1), "1 9");
        PromiseMarket second = Setups.market("process 0 0 0; process 0 9 0; process 0 9 0;");
        second.run(1);
        due("process 1, if 0 has no backlog", figures(second, 1), "0 8 9");
        PromiseMarket alone = Setups.market("process 0 0 0; process 0 9 0; process 0 0 0;");
        alone.run(4);
        due("one process alone", figures(alone, 7), "0 4 0");
        quote(PLACE, FREE);
        PromiseMarket eight = new PromiseMarket();
        for (int i = 0; i < 8; i++) {
            eight.addProcess(0, i == 3 ? 0 : 9, 0);
        }
        eight.run(7);
        due("all but 3", figures(eight, 7), "1 1 1 0 1 1 1 1");
        eight.run(2);
        due("behind 7 comes 0, then 1", figures(eight, 7), "2 2 1 0 1 1 1 1");
        eight.addWork(3, 9);
        eight.run(2);
        due("then 2 and 3", figures(eight, 7), "2 2 2 1 1 1 1 1");
        PromiseMarket grows = Setups.market("process 0 9 0; process 0 9 0;");
        grows.run(2);
        grows.addProcess(0, 9, 0);
        grows.run(1);
        due("behind 1 comes 2, which is new", figures(grows, 7), "1 1 1");
    }

    private void freeTicksBehindOthers() {
        quote(PLACE, FREE);
        PromiseMarket idle = Setups.market("process 0 1 0; process 0 0 0; process 0 0 0;");
        idle.run(3);
        due("idle ticks", idle.count(11), 2);
        idle.addWork(0, 1);
        idle.addWork(1, 1);
        idle.addWork(2, 1);
        idle.run(1);
        due("behind idle ticks, 1 comes behind 0", figures(idle, 7), "1 1 0");
        PromiseMarket fresh = Setups.market("process 0 0 0; process 0 0 0;");
        fresh.run(3);
        fresh.addWork(0, 5);
        fresh.addWork(1, 5);
        fresh.run(1);
        due("behind idle ticks alone, process 0 comes first", figures(fresh, 7), "1 0");
        PromiseMarket others = Setups.market("process 0 9 0; process 90 9 9; process 0 9 0; process 0 0 0; promise 2 6 1 6; promise 3 6 1 6;");
        others.run(4);
        due("a used one, a sold one, then free ones of 0 and 1", figures(others, 7), "1 1 0 0");
        others.run(6);
        due("2 and 0, a used and a sold one, then 1 and 2", figures(others, 7), "2 2 2 0");
        PromiseMarket used = Setups.market("process 0 9 0; process 0 9 0; promise 1 2 1 2;");
        used.run(6);
        due("each used tick is followed by a free one, in turn", figures(used, 7), "2 1");
    }

    private void idleTick() {
        quote(PLACE, "if no process has a backlog, the tick is idle.");
        PromiseMarket market = Setups.market("process 50 1 9; process 50 0 9;");
        market.run(1);
        due("a process has one", market.count(10) + " " + market.count(11), "1 0");
        market.run(1);
        due("none has", market.count(10) + " " + market.count(11), "1 1");
        due("nobody pays", figures(market, 0) + " " + market.bank(), "50 50 0");
        PromiseMarket promised = Setups.market("process 50 0 0; promise 0 2 1 2;");
        promised.run(2);
        due("a wasted one is not idle, the one behind it is", promised.count(9) + " " + promised.count(11), "1 1");
    }

    private void timeGrows() {
        quote(PLACE, "4. The time grows by 1.");
        PromiseMarket market = new PromiseMarket();
        for (int time = 1; time <= 3; time++) {
            market.run(1);
            due("behind " + time + " ticks", market.count(0), time);
        }
        market.addProcess(50, 2, 0);
        market.promise(0, 4, 3, 4);
        market.run(4);
        due("behind a used, a used, a wasted and an idle one", market.count(0), 7);
    }

    private void noJobIsMissed() {
        quote(PLACE, "A job whose absolute deadline is reached, with something of its budget left, is missed (this never "
                + "happens).");
        String[] promises = {"promise 0 2 1 1; promise 1 4 1 2; promise 0 4 1 4;", "promise 0 120 120 120;",
            "promise 1 3 1 1; promise 0 120 80 120;", "promise 0 8 1 1; promise 1 20 2 10; promise 0 5 1 5; promise 1 120 60 120;"};
        for (String promise : promises) {
            PromiseMarket market = Setups.market("process 50 70 0 every 2 1; process 50 0 5 every 9 2;" + promise);
            market.run(37);
            int last = market.count(2) - 1;
            if (market.told(last, 3) > 1) {
                market.split(last, 1);
            }
            market.run(500);
            due("of " + promise, market.count(12), 0);
        }
    }

    // ---- promises 30 to 33

    private void run() {
        quote("Promise 30", "Lets ticks pass.");
        PromiseMarket market = Setups.market("process 1000000 3 0; promise 0 4 3 4;");
        market.run(1);
        due("1", market.count(0) + " " + market.count(7), "1 1");
        market.run(500);
        due("500 more", market.count(0) + " " + market.count(7) + " " + market.count(9) + " " + market.count(11), "501 3 373 125");
        quote("Promise 30", "ticks: 1 to 500");
        dueArgument("0", () -> market.run(0));
        dueArgument("501", () -> market.run(501));
        quote("Promise 30", "Returns the number of wasted ticks among them.");
        due("none of 1", new PromiseMarket().run(1), 0);
        due("none of 500", new PromiseMarket().run(500), 0);
        due("all of 500", Setups.market("process 0 0 0; promise 0 2 2 2;").run(500), 500);
        PromiseMarket some = Setups.market("process 0 1 0; promise 0 4 3 4;");
        due("two of four", some.run(4), 2);
        due("one of one, those before do not count", some.run(1), 1);
        due("two of three", some.run(3), 2);
    }

    private void ticksToFinish() {
        quote("Promise 31", "Predicts after how many ticks a process has no backlog for the first time at the end of a "
                + "tick, if only time passes.");
        PromiseMarket market = Setups.market("process 50 3 2 every 4 1; process 50 2 0; process 90 0 0; promise 2 3 1 3;");
        String before = Setups.everythingOf(market);
        int due = 0;
        PromiseMarket twin = Setups.market("process 50 3 2 every 4 1; process 50 2 0; process 90 0 0; promise 2 3 1 3;");
        while (twin.process(0, 1) > 0) {
            twin.run(1);
            due++;
        }
        due("as time tells", market.ticksToFinish(0, 500), due);
        due("which is", due, 7);
        due("no time has passed", Setups.everythingOf(market), before);
        PromiseMarket once = Setups.market("process 0 1 0 every 1 1;");
        due("1 more comes before each one that is done", once.ticksToFinish(0, 500), -1);
        PromiseMarket gap = Setups.market("process 0 2 0 every 2 1;");
        due("3 at first, 2 behind 1 tick, 1 behind 2, 1 behind 3, and none behind 4", gap.ticksToFinish(0, 500), 4);
        due("for the first time", Setups.market("process 0 1 0 every 2 0;").ticksToFinish(0, 500), 1);
    }

    private void ticksToFinishOrNone() {
        quote("Promise 31", "Returns the number of ticks; 0 if it has none now (whatever arrives in the next tick);");
        PromiseMarket market = Setups.market("process 0 0 0 every 1 60; process 0 5 0;");
        due("none now", market.ticksToFinish(0, 1), 0);
        due("none now, and as many ticks as can be", market.ticksToFinish(0, 500), 0);
        due("the other one has none in the first tick, as it comes behind 0", market.ticksToFinish(1, 500), 10);
        quote("Promise 31", "NONE if not within so many ticks.");
        PromiseMarket alone = Setups.market("process 0 500 0;");
        due("500 of 500", alone.ticksToFinish(0, 500), 500);
        due("500 of 499", alone.ticksToFinish(0, 499), -1);
        due("501 of 500", Setups.market("process 0 501 0;").ticksToFinish(0, 500), -1);
        due("1 of 1", Setups.market("process 0 1 0;").ticksToFinish(0, 1), 1);
        due("2 of 1", Setups.market("process 0 2 0;").ticksToFinish(0, 1), -1);
    }

    private static PromiseMarket trade() {
        return Setups.market("penalty 3; process 100 0 0; process 90 3 7 every 9 1; process 10 2 0; promise 0 4 3 4; promise 2 8 1 8;");
    }

    private void moneyAfter() {
        quote("Promise 32", "Predicts the money of a process, if only time passes.");
        PromiseMarket market = trade();
        String before = Setups.everythingOf(market);
        market.moneyAfter(0, 500);
        due("no time has passed", Setups.everythingOf(market), before);
        quote("Promise 32", "Returns its money after so many ticks.");
        int[] ticks = {1, 2, 3, 4, 5, 8, 60, 499, 500};
        for (int some : ticks) {
            PromiseMarket twin = trade();
            twin.run(some);
            due("of all behind " + some, market.moneyAfter(0, some) + " " + market.moneyAfter(1, some) + " "
                    + market.moneyAfter(2, some), figures(twin, 0));
        }
        due("a tick is sold in the first one", market.moneyAfter(0, 1), 107);
        due("of one that can hold nothing more",
                Setups.market("process 1000000 0 0; process 50 9 9; promise 0 2 2 2;").moneyAfter(0, 2), 1000000);
    }

    private void bestBid() {
        quote("Promise 33", "Predicts which bid would let the backlog of a process be least after some ticks, if only time "
                + "passes.");
        PromiseMarket market = Setups.market("process 0 0 0; process 900 9 5; process 900 9 42; promise 0 4 4 4;");
        String before = Setups.everythingOf(market);
        due("as high as the other one's, for it comes first", market.bestBid(1, 5), 42);
        due("1 more than the other one's", market.bestBid(2, 5), 6);
        due("no time has passed, and the bids are as before", Setups.everythingOf(market), before);
        quote("Promise 33", "Returns of the bids 0 to 99 the one with the least backlog then,");
        market.setBid(1, 98);
        due("99 is the most", market.bestBid(2, 5), 99);
        market.setBid(1, 99);
        due("but it does not help against 99, nor does any other", market.bestBid(2, 5), 0);
        due("its own bid of now does not count", market.bestBid(1, 5), 42);
        PromiseMarket poor = Setups.market("process 0 0 0; process 12 5 0; promise 0 4 4 4;");
        due("12 buy 4 ticks for 3 each, but 5 for 2 each, or for 1 each", poor.bestBid(1, 120), 1);
        due("the first tick alone", poor.bestBid(1, 1), 1);
    }

    private void bestBidOfSeveral() {
        quote("Promise 33", "of several the one with the most money then,");
        PromiseMarket cheap = Setups.market("process 0 0 0; process 900 3 0; process 900 3 20; promise 0 4 4 4;");
        due("against 20 in 3 ticks", cheap.bestBid(1, 3), 20);
        due("behind the other one's 3 ticks each bid will do", cheap.bestBid(1, 6), 1);
        PromiseMarket sells = Setups.market("process 900 1 0; process 900 9 30; promise 0 4 4 4;");
        due("it runs in its own tick, and no bid costs anything", sells.bestBid(0, 1), 0);
        quote("Promise 33", "then the lowest one.");
        PromiseMarket none = Setups.market("process 900 0 77; process 0 5 9; promise 1 4 4 4;");
        due("without backlog all are alike", none.bestBid(0, 120), 0);
        due("without money all are alike", none.bestBid(1, 1), 0);
        PromiseMarket little = Setups.market("process 0 0 0; process 4 9 50; process 90 9 5; promise 0 4 4 4;");
        due("4 are not enough against 5, and the higher ones can't be paid", little.bestBid(1, 3), 0);
        PromiseMarket free = Setups.market("process 900 3 50; process 900 3 50;");
        due("bids do not matter in free ticks", free.bestBid(1, 4), 0);
    }
}
