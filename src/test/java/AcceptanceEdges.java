/** ACCEPTANCE, promises 9 to 11, and what the document tells of demand, promises 15 to 19. */
final class AcceptanceEdges extends Edges {
    private static final String PLACE = "ACCEPTANCE";

    AcceptanceEdges(Record record) {
        super(record);
    }

    @Override
    void test() {
        timelineKeepsJobs();
        timelineKeepsNextReleases();
        timelineOf360Ticks();
        timelineBySteps2To4Alone();
        chosenJobUsesOne();
        sumAtMost120();
        sumOfWhatHasNotEnded();
        sumBesidesTimeline();
        noJobIsMissed();
        firstJobNow();
        demandFromTheDeadlineOn();
        demandRoundedDown();
        canAccept();
        greatestBudget();
        waitFor();
        waitForAsLongAsPossible();
        demand();
        tightest();
        isBounded();
        load();
        spare();
    }

    private static PromiseMarket oneProcess() {
        return Setups.market("process 1000 0 0;");
    }

    /** About half of all ticks are promised, some before short deadlines, and one promise has ended. */
    private static PromiseMarket busy() {
        PromiseMarket market = Setups.market(
                "process 1000 0 0; promise 0 8 1 2; promise 0 12 2 12; promise 0 4 1 4; promise 0 120 20 60;");
        market.end(2);
        market.run(5);
        return market;
    }

    private void timelineKeepsJobs() {
        quote(PLACE, "The timeline of promises goes on from the present state (their jobs");
        PromiseMarket waits = oneProcess();
        waits.promise(0, 120, 2, 2);
        waits.promise(0, 120, 1, 3);
        waits.run(1);
        waits.end(0);
        due("1 is left to be done till 3, and 2 more", waits.canAccept(120, 2, 2), false);
        due("1 is left to be done till 3, and 1 more", waits.canAccept(120, 1, 2), true);
        PromiseMarket done = oneProcess();
        done.promise(0, 120, 1, 3);
        done.run(1);
        due("nothing is left, and 2 more", done.canAccept(120, 2, 2), true);
        waits.run(1);
        due("nothing is left a tick later", waits.canAccept(120, 2, 2), true);
    }

    private void timelineKeepsNextReleases() {
        quote(PLACE, "and next releases)");
        PromiseMarket market = oneProcess();
        market.promise(0, 120, 1, 1);
        market.run(1);
        due("the next release is 119 ticks away", market.canAccept(120, 119, 119), true);
        market.run(1);
        due("the next release is 118 ticks away", market.canAccept(120, 119, 119), false);
        due("but 118 ticks can be promised", market.canAccept(120, 118, 118), true);
    }

    private void timelineOf360Ticks() {
        quote(PLACE, "for 360 ticks,");
        due("spare() of nothing", oneProcess().spare(), 360);
        PromiseMarket one = oneProcess();
        one.promise(0, 120, 1, 1);
        due("spare() with three jobs of 1", one.spare(), 357);
        one.run(1);
        due("spare() with three jobs of 1, a tick later", one.spare(), 357);
        PromiseMarket late = oneProcess();
        late.promise(0, 120, 60, 119);
        late.run(2);
        due("the first job that is missed is so at the end of the 237th tick", late.canAccept(2, 1, 1), false);
        due("with a deadline of 2 none is", late.canAccept(2, 1, 2), true);
    }

    private void timelineBySteps2To4Alone() {
        quote(PLACE, "by steps 2 to 4 alone,");
        PromiseMarket idle = Setups.market("process 0 0 0; promise 0 4 2 3;");
        PromiseMarket lively = Setups.market(
                "process 99 9 0 every 1 9; process 99 9 9 every 1 9; promise 0 4 2 3;");
        int[][] terms = {{4, 1, 1}, {4, 2, 2}, {4, 1, 2}, {4, 2, 4}, {2, 1, 2}, {2, 1, 1}};
        for (int[] term : terms) {
            due("whoever runs", lively.canAccept(term[0], term[1], term[2]),
                    idle.canAccept(term[0], term[1], term[2]));
        }
        due("spare()", lively.spare(), 180);
        due("no arrivals come", lively.process(0, 1), 9);
        due("no tick is sold", lively.process(1, 0), 99);
        due("no time passes", lively.count(0), 0);
        due("no job is released", lively.told(0, 15), 0);
    }

    private void chosenJobUsesOne() {
        quote(PLACE, "each chosen job using 1 of its budget.");
        PromiseMarket market = oneProcess();
        market.promise(0, 4, 3, 4);
        due("three of four ticks", market.spare(), 90);
        market.promise(0, 120, 29, 120);
        due("and 29 of 120", market.spare(), 3);
        market.promise(0, 120, 1, 120);
        due("and 1 of 120", market.spare(), 0);
    }

    private void sumAtMost120() {
        quote(PLACE, "A new promise is accepted if the sum of budget * (120 / period) over it");
        int[] periods = {2, 3, 4, 5, 6, 8, 10, 12, 15, 20, 24, 30, 40, 60, 120};
        for (int period : periods) {
            PromiseMarket market = oneProcess();
            market.promise(0, period, 1, period);
            int rest = 120 - 120 / period;
            due("1 of " + period + ", and a sum of 120", market.canAccept(120, rest, 120), true);
            due("1 of " + period + ", and a sum of 121", market.canAccept(120, rest + 1, 120), false);
        }
        due("120 alone", oneProcess().canAccept(120, 120, 120), true);
        due("2 of 2 alone", oneProcess().canAccept(2, 2, 2), true);
    }

    private void sumOfWhatHasNotEnded() {
        quote(PLACE, "and all promises that have not ended is at most 120,");
        PromiseMarket market = Setups.market(
                "process 0 0 0; promise 0 3 1 3; promise 0 8 1 8; promise 0 60 10 60; promise 0 12 1 12;");
        due("40, 15, 20, 10 and 35", market.canAccept(120, 35, 120), true);
        due("40, 15, 20, 10 and 36", market.canAccept(120, 36, 120), false);
        market.end(1);
        due("40, 20, 10 and 50", market.canAccept(120, 50, 120), true);
        due("40, 20, 10 and 51", market.canAccept(120, 51, 120), false);
        market.split(2, 9);
        due("40, 18, 2, 10 and 50", market.canAccept(120, 50, 120), true);
        due("40, 18, 2, 10 and 51", market.canAccept(120, 51, 120), false);
        dueState("promise() then", () -> market.promise(0, 120, 51, 120));
        due("promise() of 50", market.promise(0, 120, 50, 120), 5);
        due("nothing more", market.canAccept(120, 1, 120), false);
    }

    /** What is too much comes due behind the timeline, so only the sum tells. */
    private void sumBesidesTimeline() {
        quote(PLACE, "is at most 120,");
        PromiseMarket market = oneProcess();
        market.promise(0, 120, 60, 120);
        market.run(60);
        due("60 and 61", market.canAccept(120, 61, 120), false);
        dueState("60 and 61", () -> market.promise(0, 120, 61, 120));
        due("60 and 60", market.canAccept(120, 60, 120), true);
        due("60 and 60", market.promise(0, 120, 60, 120), 1);
        PromiseMarket twice = oneProcess();
        twice.promise(0, 60, 30, 60);
        twice.run(30);
        due("2 times 30 and 61", twice.canAccept(120, 61, 120), false);
        due("2 times 30 and 60", twice.canAccept(120, 60, 120), true);
    }

    private void noJobIsMissed() {
        quote(PLACE, "and in the timeline with it");
        PromiseMarket market = oneProcess();
        market.promise(0, 120, 5, 5);
        due("its own job is done just at its deadline", market.canAccept(120, 5, 10), true);
        due("its own job would need a tick more", market.canAccept(120, 6, 10), false);
        due("its own job has a deadline 1 too early", market.canAccept(120, 5, 9), false);
        quote(PLACE, "no job is missed.");
        PromiseMarket other = oneProcess();
        other.promise(0, 120, 5, 10);
        due("the other job is done just at its deadline", other.canAccept(120, 5, 5), true);
        due("the other job would be missed", other.canAccept(120, 6, 6), false);
        PromiseMarket later = oneProcess();
        later.promise(0, 8, 1, 1);
        later.run(1);
        due("jobs at 1 and at 8 alone would be kept, those at 16 would not", later.canAccept(15, 1, 1), false);
        due("those at 16 have a tick more", later.canAccept(15, 1, 2), true);
        dueState("promise() then", () -> later.promise(0, 15, 1, 1));
        due("all the same to promise()", later.promise(0, 15, 1, 2), 1);
        later.run(500);
        due("missed jobs", later.count(12), 0);
    }

    private void firstJobNow() {
        quote(PLACE, "(its first job is released at the present time)");
        PromiseMarket market = oneProcess();
        market.promise(0, 2, 1, 1);
        for (int time = 0; time < 6; time++) {
            due("every other tick is promised, at the time " + time, market.canAccept(2, 1, 1), time % 2 == 1);
            market.run(1);
        }
    }

    private void demandFromTheDeadlineOn() {
        quote(PLACE, "The demand of some promises in t ticks is the sum, over the promises that have not ended and "
                + "whose deadline is at most t,");
        int[][] terms = {{120, 7, 7}, {120, 7, 119}, {120, 7, 120}, {2, 1, 1}, {2, 2, 2}, {60, 3, 30}};
        for (int[] term : terms) {
            PromiseMarket market = oneProcess();
            market.promise(0, term[0], term[1], term[2]);
            if (term[2] > 1) {
                due("t is 1 below the deadline " + term[2], market.demand(term[2] - 1), 0);
            }
            due("t is just the deadline " + term[2], market.demand(term[2]), term[1]);
            market.end(0);
            due("it has ended", market.demand(240), 0);
        }
        PromiseMarket two = oneProcess();
        two.promise(0, 60, 3, 30);
        two.promise(0, 60, 4, 31);
        due("of two, none", two.demand(29), 0);
        due("of two, one", two.demand(30), 3);
        due("of two, both", two.demand(31), 7);
    }

    private void demandRoundedDown() {
        quote(PLACE, "of budget * ((t - deadline) / period + 1), with the quotient rounded down.");
        int[][] terms = {{2, 1, 1}, {2, 2, 2}, {60, 3, 30}, {60, 60, 60}, {40, 5, 40}, {24, 2, 5}};
        for (int[] term : terms) {
            PromiseMarket market = oneProcess();
            market.promise(0, term[0], term[1], term[2]);
            for (int jobs = 1; jobs <= 3; jobs++) {
                int last = term[2] + jobs * term[0] - 1;
                due("jobs till " + last, market.demand(last), jobs * term[1]);
                due("jobs till " + (last + 1), market.demand(last + 1), (jobs + 1) * term[1]);
            }
        }
        PromiseMarket whole = oneProcess();
        whole.promise(0, 2, 2, 2);
        due("in 240 ticks", whole.demand(240), 240);
        due("in 239 ticks", whole.demand(239), 238);
    }

    // ---- promises 9 to 11

    private void canAccept() {
        quote("Promise 9", "Tells whether a promise would be accepted now");
        PromiseMarket now = oneProcess();
        now.promise(0, 120, 1, 1);
        due("now it would not", now.canAccept(120, 1, 1), false);
        now.run(1);
        due("a tick later it would", now.canAccept(120, 1, 1), true);
        due("nothing is made", now.count(2), 1);
        quote("Promise 9", "(the number of promises does not matter).");
        PromiseMarket many = oneProcess();
        for (int i = 0; i < 20; i++) {
            many.promise(0, 120, 3, 120);
        }
        due("20 promises, and 60", many.canAccept(120, 60, 120), true);
        due("20 promises, and 61", many.canAccept(120, 61, 120), false);
        dueState("promise() itself", () -> many.promise(0, 120, 60, 120));
        for (int i = 0; i < 20; i++) {
            many.end(i);
        }
        due("20 that have ended, and all", many.canAccept(120, 120, 120), true);
        quote("Promise 9", "Returns whether it would be accepted.");
        int[] periods = {2, 3, 4, 5, 6, 8};
        for (int period : periods) {
            for (int budget = 1; budget <= period; budget++) {
                for (int deadline = budget; deadline <= period; deadline++) {
                    asPromiseItself(period, budget, deadline);
                }
            }
        }
    }

    private void asPromiseItself(int period, int budget, int deadline) {
        PromiseMarket market = busy();
        String terms = period + ", " + budget + ", " + deadline;
        if (market.canAccept(period, budget, deadline)) {
            due("promise() of " + terms, market.promise(0, period, budget, deadline), 4);
        } else {
            dueState("promise() of " + terms, () -> market.promise(0, period, budget, deadline));
        }
    }

    private void greatestBudget() {
        quote("Promise 10", "Returns the greatest budget with which a promise would be accepted now "
                + "(as by canAccept());");
        int[][] terms = {{2, 1}, {2, 2}, {3, 3}, {8, 1}, {8, 3}, {8, 8}, {120, 1}, {120, 60}, {120, 119}, {120, 120}};
        for (int[] term : terms) {
            PromiseMarket market = busy();
            int greatest = 0;
            for (int budget = 1; budget <= term[1]; budget++) {
                greatest = market.canAccept(term[0], budget, term[1]) ? budget : greatest;
            }
            due("of " + term[0] + " till " + term[1], market.greatestBudget(term[0], term[1]), greatest);
            due("of " + term[0] + " till " + term[1] + " in all", oneProcess().greatestBudget(term[0], term[1]), term[1]);
        }
        PromiseMarket half = oneProcess();
        half.promise(0, 2, 1, 2);
        due("half of 120", half.greatestBudget(120, 120), 60);
        due("half of 9", half.greatestBudget(120, 9), 5);
        due("nothing is made", half.count(2), 1);
        quote("Promise 10", "0 if there is none.");
        half.promise(0, 120, 59, 120);
        due("one tick of 120", half.greatestBudget(120, 120), 1);
        due("one tick of 60 would be two", half.greatestBudget(60, 60), 0);
        half.promise(0, 120, 1, 120);
        due("all is promised", half.greatestBudget(120, 120), 0);
        PromiseMarket first = oneProcess();
        first.promise(0, 120, 1, 1);
        due("this tick is promised", first.greatestBudget(120, 1), 0);
        due("the next one is not", first.greatestBudget(120, 2), 1);
        quote("Promise 10", "deadline: 1 to the period");
        dueArgument("0", () -> half.greatestBudget(60, 0));
        dueArgument("1 above the period", () -> half.greatestBudget(60, 61));
        due("1", oneProcess().greatestBudget(60, 1), 1);
        due("the period", oneProcess().greatestBudget(60, 60), 60);
    }

    private void waitFor() {
        quote("Promise 11", "Predicts how long a promise must wait, if only time passes.");
        PromiseMarket market = Setups.market("process 9 5 0 every 2 1; promise 0 2 1 1;");
        String before = Setups.everythingOf(market);
        market.waitFor(2, 1, 1);
        market.waitFor(3, 1, 1);
        due("no time has passed", Setups.everythingOf(market), before);
        quote("Promise 11", "Returns the least number of ticks, 0 to 120, after which it would be accepted "
                + "(as by canAccept());");
        due("accepted now", market.waitFor(2, 1, 2), 0);
        due("accepted a tick later", market.waitFor(2, 1, 1), 1);
        int[][] terms = {{8, 1, 1}, {120, 30, 30}, {24, 6, 6}, {3, 1, 1}, {120, 59, 85}, {30, 14, 24}, {40, 18, 23},
            {120, 46, 61}, {60, 27, 40}, {120, 65, 87}, {120, 66, 120}};
        for (int[] term : terms) {
            due("of " + term[0] + ", " + term[1] + ", " + term[2], busy().waitFor(term[0], term[1], term[2]),
                    ticksTillAccepted(busy(), term));
        }
        quote("Promise 11", "NONE if it would not be within 120 ticks.");
        due("every third tick is promised sometimes", market.waitFor(3, 1, 1), -1);
        due("the sum is too great", market.waitFor(2, 2, 2), -1);
    }

    private static int ticksTillAccepted(PromiseMarket market, int[] term) {
        for (int ticks = 0; ticks <= 120; ticks++) {
            if (market.canAccept(term[0], term[1], term[2])) {
                return ticks;
            }
            market.run(1);
        }
        return -1;
    }

    /** In each cycle only the ticks 0 to 56 are free together, and at 120 one tick of promise 1 is late. */
    private void waitForAsLongAsPossible() {
        PromiseMarket market = oneProcess();
        market.run(57);
        market.promise(0, 120, 1, 1);
        market.run(1);
        market.promise(0, 120, 1, 92);
        market.promise(0, 120, 1, 1);
        market.run(1);
        market.end(2);
        market.promise(0, 120, 61, 61);
        market.run(60);
        quote("Promise 11", "NONE if it would not be within 120 ticks.");
        due("it would be after 121", market.waitFor(120, 57, 57), -1);
        market.run(1);
        quote("Promise 11", "Returns the least number of ticks, 0 to 120, after which it would be accepted");
        due("the most", market.waitFor(120, 57, 57), 120);
        due("as time tells", ticksTillAccepted(market, new int[] {120, 57, 57}), 120);
    }

    // ---- promises 15 to 19

    private void demand() {
        quote("Promise 15", "Returns the demand of the promises in so many ticks.");
        PromiseMarket market = Setups.market(
                "process 0 0 0; promise 0 4 2 3; promise 0 120 7 120; promise 0 10 1 10;");
        due("without promises", oneProcess().demand(240), 0);
        due("in 1", market.demand(1), 0);
        due("in 10", market.demand(10), 5);
        due("in 120", market.demand(120), 60 + 7 + 12);
        due("in 240", market.demand(240), 120 + 14 + 24);
        market.end(0);
        due("in 240, when one has ended", market.demand(240), 14 + 24);
        market.run(9);
        due("at another time", market.demand(240), 14 + 24);
    }

    private void tightest() {
        quote("Promise 16", "Returns of 1 to 240 the number of ticks t with which t minus the demand in t ticks");
        due("without promises", oneProcess().tightest(), 1);
        PromiseMarket two = Setups.market("process 0 0 0; promise 0 4 2 2;");
        due("2 less 2", two.tightest(), 2);
        PromiseMarket cycle = Setups.market("process 0 0 0; promise 0 120 119 120;");
        due("1 less 0 is as little as 120 less 119", cycle.tightest(), 1);
        cycle.promise(0, 120, 1, 120);
        due("120 less 120", cycle.tightest(), 120);
        cycle.end(0);
        due("when one has ended", cycle.tightest(), 1);
        quote("Promise 16", "(which can be below 0)");
        PromiseMarket below = Setups.market("process 0 0 0; promise 0 120 3 3;");
        due("3 less 3", below.tightest(), 3);
        below.run(3);
        below.promise(0, 120, 4, 4);
        due("4 less 7 is below 3 less 3", below.tightest(), 4);
        below.run(4);
        below.promise(0, 120, 5, 6);
        due("6 less 12", below.tightest(), 6);
        quote("Promise 16", "is least, of several the least.");
        PromiseMarket alike = Setups.market("process 0 0 0; promise 0 2 2 2;");
        due("2 less 2, 4 less 4 and so on", alike.tightest(), 2);
        PromiseMarket four = Setups.market("process 0 0 0; promise 0 4 3 4;");
        due("1 less 0, and 4 less 3", four.tightest(), 1);
    }

    private void isBounded() {
        quote("Promise 17", "Tells whether the demand in t ticks, together with that of one promise more, is at most t");
        PromiseMarket market = Setups.market("process 0 0 0; promise 0 120 5 5;");
        due("5 and 5 in 10", market.isBounded(120, 5, 10), true);
        due("5 and 6 in 10", market.isBounded(120, 6, 10), false);
        due("5 and 5 in 9", market.isBounded(120, 5, 9), false);
        market.run(5);
        due("though it would be accepted now", market.isBounded(120, 5, 9), false);
        due("nothing is made", market.count(2), 1);
        market.end(0);
        due("alone", market.isBounded(120, 5, 5), true);
        due("alone, and never tight", market.isBounded(120, 5, 50), true);
        quote("Promise 17", "for each t from 1 to 240.");
        PromiseMarket first = Setups.market("process 0 0 0; promise 0 120 1 1;");
        due("2 in 1", first.isBounded(120, 1, 1), false);
        due("2 in 2", first.isBounded(120, 1, 2), true);
        PromiseMarket last = Setups.market("process 0 0 0; promise 0 120 60 120;");
        due("60 and 60 in 120", last.isBounded(120, 60, 120), true);
        due("60 and 61 in 120", last.isBounded(120, 61, 120), false);
        PromiseMarket later = Setups.market("process 0 0 0; promise 0 8 1 1;");
        due("2 and 7 in 9", later.isBounded(15, 7, 9), true);
        due("2 and 8 in 9, though all is well before and behind", later.isBounded(15, 8, 9), false);
        due("2 and 8 in 10", later.isBounded(15, 8, 10), true);
        quote("Promise 17", "Returns whether it is.");
        due("of all ticks", oneProcess().isBounded(2, 2, 2), true);
        PromiseMarket many = oneProcess();
        for (int i = 0; i < 20; i++) {
            many.promise(0, 120, 3, 120);
        }
        due("of 20 and a 21st, 120 in 120", many.isBounded(120, 60, 120), true);
        due("of 20 and a 21st, 121 in 120", many.isBounded(120, 61, 120), false);
    }

    private void load() {
        quote("Promise 18", "Returns the sum of budget / period of the promises that have not ended, by ascending "
                + "numbers,");
        PromiseMarket market = oneProcess();
        market.promise(0, 5, 2, 5);
        market.promise(0, 10, 3, 10);
        market.promise(0, 5, 1, 5);
        due("in another order it would be 0.9 or 0.9000000000000001", market.load(), 0.8999999999999999);
        market.end(1);
        due("one has ended", market.load(), 2.0 / 5.0 + 1.0 / 5.0);
        quote("Promise 18", "each quotient and the sum in double precision;");
        PromiseMarket third = Setups.market("process 0 0 0; promise 0 3 1 3;");
        due("a third", third.load(), 0.3333333333333333);
        due("all", Setups.market("process 0 0 0; promise 0 120 120 120;").load(), 1.0);
        quote("Promise 18", "0.0 without promises.");
        due("never any", new PromiseMarket().load(), 0.0);
        third.end(0);
        due("all have ended", third.load(), 0.0);
    }

    private void spare() {
        quote("Promise 19", "Returns the number of ticks, 0 to 360, of the timeline in which no job can be chosen.");
        due("the most", new PromiseMarket().spare(), 360);
        PromiseMarket full = Setups.market("process 0 0 0; promise 0 4 2 3; promise 0 2 1 2;");
        due("the least", full.spare(), 0);
        full.run(3);
        due("the least, later", full.spare(), 0);
        full.end(1);
        due("when one has ended", full.spare(), 180);
        full.end(0);
        due("when all have ended", full.spare(), 360);
        due("no time has passed", full.count(0), 3);
        PromiseMarket waits = Setups.market("process 0 0 0; promise 0 120 110 120; promise 0 120 10 10;");
        waits.run(10);
        waits.end(1);
        due("110 wait now, 110 twice, and 10 more", waits.spare(), 360 - 110 - 220 - 10);
    }
}
