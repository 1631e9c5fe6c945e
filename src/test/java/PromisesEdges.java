/** PROMISES, and promises 8 and 12 to 14. */
final class PromisesEdges extends Edges {
    private static final String PLACE = "PROMISES";

    PromisesEdges(Record record) {
        super(record);
    }

    @Override
    void test() {
        atMostTwentyPromises();
        endedPromiseKeepsItsNumber();
        periods();
        budgetsAndDeadlines();
        releaseInEachPeriod();
        jobHasHolderRestAndDeadline();
        jobUntilItsDeadline();
        holderIsLesseeAsLongAsJobsAreLeft();
        holderNeverChanges();
        promise();
        end();
        endOfLeaseAndPrice();
        restOfEnded();
        splitKeepsTerms();
        splitBudget();
        splitRest();
        splitLeavesLeaseAndCounts();
        told();
        toldWithoutAny();
        toldCounts();
        none();
    }

    private static PromiseMarket twoProcesses() {
        return Setups.market("process 1000 0 0; process 1000 0 0;");
    }

    private static String job(PromiseMarket market, int promise) {
        return market.told(promise, 6) + " " + market.told(promise, 7) + " " + market.told(promise, 8);
    }

    private static String lease(PromiseMarket market, int promise) {
        return market.told(promise, 10) + " " + market.told(promise, 11);
    }

    private void atMostTwentyPromises() {
        quote(PLACE, "There are at most 20 promises, numbered from 0;");
        PromiseMarket market = twoProcesses();
        for (int i = 0; i < 20; i++) {
            due("the number of promise " + i, market.promise(0, 120, 2, 120), i);
        }
        dueState("promise() for one more", () -> market.promise(0, 120, 1, 120));
        dueState("split() for one more", () -> market.split(0, 1));
        dueIndex("promise 20", () -> market.told(20, 0));
        due("count(2)", market.count(2), 20);

        PromiseMarket split = twoProcesses();
        split.promise(0, 120, 40, 120);
        for (int i = 1; i < 20; i++) {
            due("the number of promise " + i + ", split", split.split(0, 40 - i), i);
        }
        dueState("split() for one more", () -> split.split(0, 1));
    }

    private void endedPromiseKeepsItsNumber() {
        quote(PLACE, "a promise that has ended keeps its number.");
        PromiseMarket market = twoProcesses();
        for (int i = 0; i < 19; i++) {
            market.promise(i % 2, 120, 1, 120);
        }
        market.end(0);
        market.end(18);
        due("the first, told", market.told(0, 0), 1);
        due("the one behind it", market.told(1, 1), 1);
        due("the number of a new one", market.promise(1, 120, 1, 120), 19);
        for (int i = 1; i < 18; i++) {
            market.end(i);
        }
        market.end(19);
        dueState("none is left, but no number either", () -> market.promise(0, 120, 1, 120));
        due("count(2)", market.count(2), 20);
        due("count(3)", market.count(3), 0);
        due("the owner of the last", market.told(19, 1), 1);
    }

    private void periods() {
        quote(PLACE, "A promise has an owner (a process), a period (2 to 120, a divisor of 120)");
        for (int period = -2; period <= 242; period++) {
            PromiseMarket market = twoProcesses();
            int now = period;
            if (period >= 2 && period <= 120 && 120 % period == 0) {
                due("promise() of the period " + now, market.promise(1, now, 1, 1), 0);
                due("the period", market.told(0, 2), now);
                due("the owner", market.told(0, 1), 1);
            } else {
                dueArgument("promise() of the period " + now, () -> market.promise(1, now, 1, 1));
            }
        }
    }

    private void budgetsAndDeadlines() {
        quote(PLACE, ", a budget (at least 1) and a deadline (the budget to the period), in ticks.");
        int[] periods = {2, 3, 60, 120};
        for (int period : periods) {
            budgetsAndDeadlines(period, 1);
            budgetsAndDeadlines(period, period - 1);
            budgetsAndDeadlines(period, period);
            PromiseMarket market = twoProcesses();
            dueArgument("the budget 0", () -> market.promise(0, period, 0, 1));
            dueArgument("the budget and the deadline 0", () -> market.promise(0, period, 0, 0));
            dueArgument("1 above the period", () -> market.promise(0, period, period + 1, period + 1));
        }
    }

    private void budgetsAndDeadlines(int period, int budget) {
        String terms = "period " + period + ", budget " + budget + ", deadline ";
        PromiseMarket least = twoProcesses();
        due(terms + budget, least.promise(0, period, budget, budget), 0);
        due("the budget", least.told(0, 3), budget);
        due("the deadline", least.told(0, 4), budget);
        PromiseMarket most = twoProcesses();
        dueArgument(terms + "1 below the budget", () -> most.promise(0, period, budget, budget - 1));
        dueArgument(terms + "1 above the period", () -> most.promise(0, period, budget, period + 1));
        due(terms + period, most.promise(0, period, budget, period), 0);
        due("the deadline", most.told(0, 4), period);
    }

    private void releaseInEachPeriod() {
        quote(PLACE, "From the time at which it is accepted on, a job is released at the beginning of a tick, "
                + "then again in each tick a period later.");
        int[] periods = {2, 4, 60, 120};
        for (int period : periods) {
            PromiseMarket market = twoProcesses();
            market.run(7);
            market.promise(0, period, 1, 1);
            due("none at once", market.told(0, 15), 0);
            due("the first release", market.told(0, 5), 7);
            for (int jobs = 1; jobs <= 3; jobs++) {
                market.run(1);
                due("jobs of the period " + period, market.told(0, 15), jobs);
                due("the next release", market.told(0, 5), 7 + jobs * period);
                market.run(period - 1);
                due("jobs before the next release", market.told(0, 15), jobs);
            }
        }
    }

    private void jobHasHolderRestAndDeadline() {
        quote(PLACE, "A job has a holder, what is left of its budget, and an absolute deadline: the time of its "
                + "release plus the deadline.");
        PromiseMarket market = twoProcesses();
        market.run(7);
        market.promise(1, 12, 3, 5);
        market.run(1);
        due("of the first one", job(market, 0), "2 12 1");
        market.run(1);
        due("of the first one, a tick later", job(market, 0), "1 12 1");
        market.run(1);
        due("of the first one, when it is done", job(market, 0), "0 12 1");
        market.run(10);
        due("of the second one", job(market, 0), "2 24 1");
    }

    private void jobUntilItsDeadline() {
        quote(PLACE, "The job of a promise is its latest one, as long as time is less than its absolute deadline.");
        PromiseMarket market = twoProcesses();
        market.promise(0, 8, 1, 5);
        due("before the first release", job(market, 0), "-1 -1 -1");
        market.run(4);
        due("1 before its deadline", job(market, 0), "0 5 0");
        market.run(1);
        due("at its deadline", job(market, 0), "-1 -1 -1");
        market.run(1);
        due("1 behind its deadline", job(market, 0), "-1 -1 -1");
        market.run(2);
        due("at the next release, which comes in the tick", job(market, 0), "-1 -1 -1");
        market.run(1);
        due("the latest one", job(market, 0), "0 13 0");

        PromiseMarket whole = twoProcesses();
        whole.promise(0, 4, 1, 4);
        whole.run(3);
        due("1 before the period's end", job(whole, 0), "0 4 0");
        whole.run(1);
        due("at the period's end", job(whole, 0), "-1 -1 -1");
        whole.run(1);
        due("of the next period", job(whole, 0), "0 8 0");

        PromiseMarket brief = twoProcesses();
        brief.promise(0, 2, 1, 1);
        brief.run(1);
        due("a deadline of 1 is there behind the tick", job(brief, 0), "-1 -1 -1");
        due("though it was released", brief.told(0, 15), 1);
    }

    private void holderIsLesseeAsLongAsJobsAreLeft() {
        quote(PLACE, "A promise can be leased to a process for some jobs: the holder of each job that is released is "
                + "the lessee as long as jobs of the lease are left, and one job less is left then; otherwise it is "
                + "the owner.");
        int[] leases = {1, 2, 50};
        for (int jobs : leases) {
            PromiseMarket market = twoProcesses();
            market.promise(0, 2, 1, 2);
            market.run(1);
            due("the holder before the lease", market.told(0, 8), 0);
            market.run(1);
            market.lease(0, 1, jobs, 0);
            for (int job = 1; job <= jobs; job++) {
                market.run(1);
                due("the holder of job " + job + " of " + jobs, market.told(0, 8), 1);
                due("jobs left", market.told(0, 11), jobs - job);
                market.run(1);
            }
            market.run(1);
            due("the holder of the job behind the last of " + jobs, market.told(0, 8), 0);
            due("no job is left", lease(market, 0), "-1 0");
        }
    }

    private void holderNeverChanges() {
        quote(PLACE, "The holder of a job never changes.");
        PromiseMarket market = Setups.market("process 0 9 0; process 0 9 0; promise 0 8 4 8 ask 0;");
        market.run(1);
        market.lease(0, 1, 2, 0);
        due("leased to another one", job(market, 0), "3 8 0");
        market.run(1);
        due("the holder runs", market.process(0, 5), 2);
        market.buy(0, 1);
        due("bought by another one", job(market, 0), "2 8 0");
        market.run(1);
        due("the holder runs still", market.process(0, 5), 3);
        market.split(0, 1);
        market.run(1);
        due("and in what was split from it", market.process(0, 5), 4);
        due("the other one has not run", market.process(1, 5), 0);

        PromiseMarket last = Setups.market("process 0 9 0; process 0 9 0; process 0 9 0; promise 0 8 4 8;");
        last.lease(0, 1, 1, 0);
        last.run(1);
        last.lease(0, 2, 1, 0);
        last.run(1);
        due("the last job of a lease, leased anew", job(last, 0), "2 8 1");
        due("the first lessee runs", last.process(1, 5), 2);
    }

    // ---- promises 8, 12, 13 and 14

    private void promise() {
        quote("Promise 8", "Makes a promise.");
        PromiseMarket market = twoProcesses();
        market.run(3);
        market.promise(1, 12, 3, 5);
        due("all figures", Setups.promiseOf(market, 0), "0 1 12 3 5 3 -1 -1 -1 -1 -1 0 0 0 0 0 0");
        market.run(1);
        due("with its first job", Setups.promiseOf(market, 0), "0 1 12 3 5 15 2 8 1 -1 -1 0 0 0 1 1 0");
        quote("Promise 8", "Returns the number of the promise.");
        due("the second", market.promise(0, 12, 3, 5), 1);
        market.end(1);
        due("the third, when one has ended", market.promise(0, 12, 3, 5), 2);
        market.split(2, 1);
        due("behind one that was split off", market.promise(0, 12, 1, 12), 4);
    }

    private void end() {
        quote("Promise 12", "Ends a promise: what is left of the budget of its job is lost, it has no job any more, "
                + "and none is released.");
        PromiseMarket market = Setups.market("process 0 99 0; process 0 99 0; promise 0 4 3 3; promise 1 120 9 120;");
        market.run(1);
        market.end(0);
        due("told", market.told(0, 0), 1);
        due("no job", job(market, 0), "-1 -1 -1");
        due("no next release", market.told(0, 5), -1);
        market.run(5);
        due("the other one gets the ticks that were left", market.told(1, 12), 5);
        due("the ended one gets no more", market.told(0, 12), 1);
        market.run(300);
        due("none was released", market.told(0, 15), 1);
    }

    private void endOfLeaseAndPrice() {
        quote("Promise 12", "Its lease ends, and no price is asked any more.");
        PromiseMarket market = Setups.market("penalty 0; process 90 0 0; process 90 0 0; promise 0 4 2 4 ask 5;");
        market.lease(0, 1, 9, 1);
        market.run(1);
        market.end(0);
        due("the lessee and the jobs left", lease(market, 0), "-1 0");
        due("the price", market.told(0, 9), -1);
        dueState("nobody can buy it", () -> market.buy(0, 1));
        due("not as the cheapest either", market.buyCheapest(1), -1);
        due("what was paid for the lease stays paid", market.process(1, 0), 81);
    }

    private void restOfEnded() {
        quote("Promise 12", "Returns what was left of the budget of its job (0 without a job).");
        int[] ticks = {0, 1, 2, 3, 4, 5, 7, 8, 9};
        int[] due = {0, 2, 1, 0, 0, 0, 0, 0, 2};
        for (int i = 0; i < ticks.length; i++) {
            PromiseMarket market = twoProcesses();
            market.promise(0, 8, 3, 5);
            if (ticks[i] > 0) {
                market.run(ticks[i]);
            }
            due("at the time " + ticks[i], market.end(0), due[i]);
        }
        PromiseMarket all = twoProcesses();
        all.promise(0, 120, 1, 1);
        all.promise(0, 120, 7, 120);
        all.run(1);
        due("all of the budget", all.end(1), 7);
    }

    private void splitKeepsTerms() {
        quote("Promise 13", "Splits a promise: the new promise has the same owner, period, deadline, next release and, "
                + "if there is a job, a job of its own with the same holder and absolute deadline;");
        PromiseMarket market = twoProcesses();
        market.run(2);
        market.promise(1, 12, 6, 8);
        market.split(0, 5);
        due("before the first job", Setups.promiseOf(market, 1), "0 1 12 1 8 2 -1 -1 -1 -1 -1 0 0 0 0 0 0");
        market.lease(0, 0, 1, 0);
        market.run(1);
        market.split(0, 2);
        due("with a job of another holder", Setups.promiseOf(market, 2), "0 1 12 3 8 14 2 10 0 -1 -1 0 0 0 0 0 0");
        market.run(6);
        market.split(2, 1);
        due("1 before the deadline", Setups.promiseOf(market, 3), "0 1 12 2 8 14 0 10 0 -1 -1 0 0 0 0 0 0");
        market.run(1);
        market.split(0, 1);
        due("at the deadline, without a job", Setups.promiseOf(market, 4),
                "0 1 12 1 8 14 -1 -1 -1 -1 -1 0 0 0 0 0 0");
        market.run(5);
        due("its own job, released with the others", job(market, 4) + " " + market.told(4, 15), "1 22 1 1");
        market.run(360);
        due("missed jobs", market.count(12), 0);
    }

    private void splitBudget() {
        quote("Promise 13", "the budget of the promise is reduced to some part, and the new one gets the rest.");
        int[] parts = {1, 2, 59, 118, 119};
        for (int part : parts) {
            PromiseMarket market = twoProcesses();
            market.promise(0, 120, 120, 120);
            market.split(0, part);
            due("the part " + part, market.told(0, 3), part);
            due("the rest", market.told(1, 3), 120 - part);
        }
        PromiseMarket two = twoProcesses();
        two.promise(0, 2, 2, 2);
        two.split(0, 1);
        due("1 of 2", two.told(0, 3) + " " + two.told(1, 3), "1 1");
        dueArgument("a budget of 1 has no parts", () -> two.split(0, 1));
    }

    private void splitRest() {
        quote("Promise 13", "Of what is left of the budget of the job, the promise keeps as much as its new budget at "
                + "most, the new one gets the rest.");
        int[][] rests = {{0, 4, 4, 6}, {5, 4, 4, 1}, {6, 4, 4, 0}, {7, 4, 3, 0}, {9, 4, 1, 0}, {10, 4, 0, 0},
            {0, 1, 1, 9}, {0, 9, 9, 1}, {1, 9, 9, 0}, {2, 9, 8, 0}};
        for (int[] rest : rests) {
            PromiseMarket market = twoProcesses();
            market.promise(0, 120, 1, 1);
            market.promise(0, 120, 10, 120);
            market.run(rest[0] + 1);
            market.split(1, rest[1]);
            String what = rest[0] + " of 10 are gone, the part is " + rest[1];
            due(what, market.told(1, 6) + " " + market.told(2, 6), rest[2] + " " + rest[3]);
            due("what is lost then of the promise", market.end(1), rest[2]);
            due("and of the new one", market.end(2), rest[3]);
        }
    }

    private void splitLeavesLeaseAndCounts() {
        quote("Promise 13", "The new promise has no lease and no asked price, and its counts (told() 12 to 16) are 0.");
        PromiseMarket market = Setups.market("process 90 1 0; process 90 1 5; promise 0 8 6 8 ask 5;");
        market.run(3);
        market.lease(0, 1, 9, 1);
        market.split(0, 1);
        due("all of the new one", Setups.promiseOf(market, 1), "0 0 8 5 8 8 2 8 0 -1 -1 0 0 0 0 0 0");
        due("the other one keeps them", Setups.promiseOf(market, 0), "0 0 8 1 8 8 1 8 0 5 1 9 1 1 1 1 0");
        market.run(6);
        due("the holder of its next job", market.told(1, 8), 0);
        quote("Promise 13", "Returns the number of the new promise.");
        due("the third", market.split(1, 2), 2);
        due("the fourth", market.split(1, 1), 3);
        quote("Promise 13", "part: 1 to its budget - 1");
        dueArgument("1 of 1", () -> market.split(1, 1));
        dueArgument("0", () -> market.split(2, 0));
        dueArgument("all", () -> market.split(2, 3));
        due("1 less than all", market.split(2, 2), 4);
    }

    /** Promise 0 has 2 used, 3 sold and 1 wasted tick; promise 1 has ended, promise 2 is untouched. */
    private static PromiseMarket figures() {
        PromiseMarket market = Setups.market("process 100 2 0; process 90 3 7; process 50 0 0;"
                + "promise 1 20 6 9 ask 33; promise 0 40 8 40 ask 1; promise 0 120 1 120;");
        market.lease(0, 0, 1, 0);
        market.lease(1, 2, 9, 0);
        market.end(1);
        market.run(6);
        market.lease(0, 2, 4, 0);
        return market;
    }

    private void told() {
        String[] names = {"0: 1 if it has ended, else 0;", "1: owner;", "2: period;", "3: budget;", "4: deadline;",
            "5: the time of its next release (NONE if it has ended);", "6: what is left of the budget of its job;",
            "7: the absolute deadline of its job;", "8: the holder of its job", "9: the asked price (NONE without one);",
            "10: the lessee (NONE if it is not leased);", "11: jobs left of the lease;", "12: used ticks;",
            "13: sold ticks;", "14: wasted ticks;", "15: jobs that were released;", "16: missed jobs"};
        int[] live = {0, 1, 20, 6, 9, 20, 0, 9, 0, 33, 2, 4, 2, 3, 1, 1, 0};
        int[] ended = {1, 0, 40, 8, 40, -1, -1, -1, -1, -1, -1, 0, 0, 0, 0, 0, 0};
        PromiseMarket market = figures();
        for (int what = 0; what < names.length; what++) {
            quote("Promise 14", names[what]);
            due("of a leased one with a job", market.told(0, what), live[what]);
            due("of one that has ended", market.told(1, what), ended[what]);
        }
        quote("Promise 14", "what:");
        dueArgument("-1", () -> market.told(0, -1));
        dueArgument("17", () -> market.told(0, 17));
        quote("Promise 14", "Returns that number.");
        due("all at once", Setups.promiseOf(market, 0), "0 1 20 6 9 20 0 9 0 33 2 4 2 3 1 1 0");
    }

    private void toldWithoutAny() {
        quote("Promise 14", "(6 to 8: NONE without a job);");
        PromiseMarket market = figures();
        due("of one that has ended", job(market, 1), "-1 -1 -1");
        market.run(2);
        due("1 before the deadline", job(market, 0), "0 9 0");
        market.run(1);
        due("at the deadline", job(market, 0), "-1 -1 -1");
        quote("Promise 14", "5: the time of its next release (NONE if it has ended);");
        due("without a job", market.told(0, 5), 20);
        market.end(0);
        due("ended", market.told(0, 5), -1);
        quote("Promise 14", "9: the asked price (NONE without one);");
        due("never asked", market.told(2, 9), -1);
        market.ask(2, 0);
        due("a price of 0", market.told(2, 9), 0);
        market.ask(2, -1);
        due("taken back", market.told(2, 9), -1);
        quote("Promise 14", "10: the lessee (NONE if it is not leased);");
        due("never leased", market.told(2, 10), -1);
        market.lease(2, 1, 1, 0);
        due("leased", lease(market, 2), "1 1");
        market.run(111);
        due("before its last job", lease(market, 2), "1 1");
        market.run(1);
        due("with its last job", lease(market, 2), "-1 0");
    }

    private void toldCounts() {
        quote("Promise 14", "12: used ticks;");
        PromiseMarket market = Setups.market("process 9 5 0; process 9 0 0; promise 0 4 1 2; promise 1 4 1 4;");
        market.run(1);
        due("of the one that was chosen", market.told(0, 12), 1);
        due("of the other one", market.told(1, 12), 0);
        market.run(2);
        due("a free tick is none", market.told(0, 12), 1);
        quote("Promise 14", "14: wasted ticks;");
        due("of the other one, which was chosen next", market.told(1, 14), 1);
        due("of the first one", market.told(0, 14), 0);
        quote("Promise 14", "15: jobs that were released;");
        market.run(1);
        due("1 before the next one", market.told(0, 15), 1);
        market.run(1);
        due("the next one", market.told(0, 15), 2);
        quote("Promise 14", "16: missed jobs");
        PromiseMarket full = Setups.market("process 9 0 0; promise 0 2 1 1; promise 0 4 1 2; promise 0 4 1 4;");
        full.run(500);
        due("when all ticks are promised", full.told(0, 16) + full.told(1, 16) + full.told(2, 16), 0);
    }

    private void none() {
        quote("CONSTANTS", "NONE = -1: There is none.");
        due("NONE", PromiseMarket.NONE, -1);
        PromiseMarket market = Setups.market("process 9 0 0; process 9 0 0; promise 0 4 1 4; promise 0 2 1 2;");
        due("no job", market.told(0, 7), PromiseMarket.NONE);
        due("no price", market.ask(0, PromiseMarket.NONE), PromiseMarket.NONE);
        due("no lessee", market.told(0, 10), PromiseMarket.NONE);
        due("no promise that can be bought", market.buyCheapest(1), PromiseMarket.NONE);
        due("no time at which it would be accepted", market.waitFor(2, 1, 2), PromiseMarket.NONE);
        due("no error", market.errorPosition(), PromiseMarket.NONE);
        Setups.put(market, "x");
        due("no setup", market.read(), PromiseMarket.NONE);
        market.addWork(0, 9);
        due("no end of work", market.ticksToFinish(0, 1), PromiseMarket.NONE);
    }
}
