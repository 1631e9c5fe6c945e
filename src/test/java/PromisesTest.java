/** Promises 8 to 14. */
public final class PromisesTest {
    private static final Check CHECK = new Check();
    private static final int[] PERIODS = {2, 3, 4, 5, 6, 8, 10, 12, 15, 20, 24, 30, 40, 60, 120};
    private static final int[][] WRONG_TERMS = {
        {7, 1, 1}, {1, 1, 1}, {0, 1, 1}, {-1, 1, 1}, {-2, 1, 1}, {240, 1, 1}, {121, 1, 1},
        {Integer.MIN_VALUE, 1, 1}, {Integer.MAX_VALUE, 1, 1},
        {4, 0, 1}, {4, -1, 1}, {120, 121, 121}, {4, 5, 4}, {4, 5, 5}, {4, Integer.MIN_VALUE, 4},
        {4, 2, 1}, {4, 2, 5}, {4, 2, -1}, {4, 2, Integer.MAX_VALUE}};

    public static void main(String[] args) {
        promise();
        refusedPromise();
        sumBesidesTimeline();
        twentyPromises();
        greatestBudget();
        waitFor();
        end();
        split();
        splitOfLeased();
        refusedSplit();
        told();
        CHECK.end();
    }

    private static PromiseMarket withTwoProcesses() {
        return Setups.market("process 1000 0 0; process 1000 0 0;");
    }

    private static void promise() {
        for (int period : PERIODS) {
            PromiseMarket market = withTwoProcesses();
            CHECK.due("9: canAccept, all of a period", market.canAccept(period, period, period), true);
            CHECK.due("8: promise, all of a period", market.promise(1, period, period, period), 0);
            CHECK.due("8: told", Setups.promiseOf(market, 0),
                    "0 1 " + period + " " + period + " " + period + " 0 -1 -1 -1 -1 -1 0 0 0 0 0 0");
            CHECK.due("9: canAccept, one tick more", market.canAccept(120, 1, 120), false);
        }
        PromiseMarket market = withTwoProcesses();
        market.run(7);
        market.promise(0, 4, 1, 2);
        CHECK.due("8: the first release is now", market.told(0, 5), 7);
        CHECK.due("8: no job yet", market.told(0, 6), -1);
        market.run(1);
        CHECK.due("8: released", Setups.promiseOf(market, 0), "0 0 4 1 2 11 0 9 0 -1 -1 0 0 0 1 1 0");
    }

    private static void refusedPromise() {
        PromiseMarket market = withTwoProcesses();
        market.promise(0, 120, 1, 1);
        String before = Setups.everythingOf(market);
        for (int[] terms : WRONG_TERMS) {
            CHECK.dueArgument("8: wrong terms", () -> market.promise(0, terms[0], terms[1], terms[2]));
            CHECK.dueArgument("9: wrong terms", () -> market.canAccept(terms[0], terms[1], terms[2]));
            CHECK.dueArgument("11: wrong terms", () -> market.waitFor(terms[0], terms[1], terms[2]));
            CHECK.dueIndex("8: wrong terms, no process", () -> market.promise(2, terms[0], terms[1], terms[2]));
        }
        CHECK.dueIndex("8: promise(-1, 4, 1, 1)", () -> market.promise(-1, 4, 1, 1));
        CHECK.due("9: both due at the time 1", market.canAccept(120, 1, 1), false);
        CHECK.dueState("8: both due at the time 1", () -> market.promise(0, 120, 1, 1));
        CHECK.due("9: the sum is 121", market.canAccept(120, 120, 120), false);
        CHECK.dueState("8: the sum is 121", () -> market.promise(0, 120, 120, 120));
        CHECK.due("9: the sum is 120", market.canAccept(120, 119, 120), true);
        CHECK.due("8: all after exceptions", Setups.everythingOf(market), before);
        market.run(1);
        CHECK.due("9: a tick later", market.canAccept(120, 1, 1), true);
        CHECK.due("8: a tick later", market.promise(1, 120, 1, 1), 1);
        market.run(360);
        CHECK.due("8: no job is missed", market.count(12), 0);
    }

    /** The third job of the first promise is due behind the timeline, so only the sum tells. */
    private static void sumBesidesTimeline() {
        PromiseMarket market = withTwoProcesses();
        market.promise(0, 120, 60, 120);
        market.run(60);
        CHECK.due("9: a sum of 121", market.canAccept(120, 61, 120), false);
        CHECK.due("9: a sum of 120", market.canAccept(120, 60, 120), true);
        CHECK.due("10: a sum of 120", market.greatestBudget(120, 120), 60);
        CHECK.due("11: a sum of 121", market.waitFor(120, 61, 120), -1);
        CHECK.dueState("8: a sum of 121", () -> market.promise(0, 120, 61, 120));
        CHECK.due("8: a sum of 120", market.promise(0, 120, 60, 120), 1);
        PromiseMarket twice = withTwoProcesses();
        twice.promise(0, 60, 30, 60);
        twice.run(30);
        CHECK.due("9: a sum of 2 * 30 and 61", twice.canAccept(120, 61, 120), false);
        CHECK.due("9: a sum of 2 * 30 and 60", twice.canAccept(120, 60, 120), true);
    }

    /** Only jobs after the first ones collide: the timeline must look further than one period. */
    private static void twentyPromises() {
        PromiseMarket late = withTwoProcesses();
        late.promise(0, 8, 1, 1);
        late.run(1);
        CHECK.due("9: first at 1 and at 15, then at 120 and so on", late.canAccept(15, 1, 1), false);
        CHECK.due("9: never together", late.canAccept(12, 1, 1), true);

        PromiseMarket market = withTwoProcesses();
        for (int i = 0; i < 20; i++) {
            CHECK.due("8: promise number " + i, market.promise(i % 2, 120, 1, 120), i);
        }
        CHECK.dueState("8: a 21st promise", () -> market.promise(0, 120, 1, 120));
        CHECK.dueArgument("8: a 21st promise, wrong besides", () -> market.promise(0, 120, 0, 120));
        CHECK.due("8: there are 20", market.count(2), 20);
        CHECK.due("9: their number does not matter", market.canAccept(120, 100, 120), true);
        CHECK.due("9: but their sum does", market.canAccept(120, 101, 120), false);
        CHECK.due("10: their number does not matter", market.greatestBudget(120, 120), 100);
        CHECK.due("11: their number does not matter", market.waitFor(120, 100, 120), 0);
        CHECK.due("17: their number does not matter", market.isBounded(120, 100, 120), true);
        market.end(0);
        CHECK.dueState("8: one that ended keeps its number", () -> market.promise(0, 120, 1, 120));
        CHECK.due("9: one that ended is not in the sum", market.canAccept(120, 101, 120), true);
    }

    private static void greatestBudget() {
        PromiseMarket market = withTwoProcesses();
        CHECK.due("10: greatestBudget(10, 7)", market.greatestBudget(10, 7), 7);
        CHECK.due("10: greatestBudget(120, 120)", market.greatestBudget(120, 120), 120);
        CHECK.due("10: greatestBudget(2, 1)", market.greatestBudget(2, 1), 1);
        market.promise(0, 4, 2, 4);
        CHECK.due("10: greatestBudget(4, 4) of half", market.greatestBudget(4, 4), 2);
        CHECK.due("10: greatestBudget(120, 120) of half", market.greatestBudget(120, 120), 60);
        CHECK.due("10: greatestBudget(120, 10) of half", market.greatestBudget(120, 10), 6);
        CHECK.due("10: greatestBudget(2, 1) of half", market.greatestBudget(2, 1), 1);
        market.promise(0, 4, 2, 4);
        CHECK.due("10: greatestBudget(120, 120) of nothing", market.greatestBudget(120, 120), 0);
        int[][] wrong = {{7, 1}, {0, 1}, {-4, 1}, {121, 1}, {4, 0}, {4, 5}, {4, -1}, {120, 121}};
        for (int[] w : wrong) {
            CHECK.dueArgument("10: a wrong argument", () -> market.greatestBudget(w[0], w[1]));
        }
    }

    private static void waitFor() {
        PromiseMarket market = withTwoProcesses();
        market.promise(0, 2, 1, 1);
        String before = Setups.everythingOf(market);
        CHECK.due("11: every other tick is taken", market.waitFor(2, 1, 1), 1);
        CHECK.due("11: accepted now", market.waitFor(2, 1, 2), 0);
        CHECK.due("11: every third tick is taken sometimes", market.waitFor(3, 1, 1), -1);
        CHECK.due("11: the sum is too great", market.waitFor(2, 2, 2), -1);
        CHECK.due("11: time has not passed", Setups.everythingOf(market), before);

        PromiseMarket half = withTwoProcesses();
        half.promise(0, 120, 60, 60);
        CHECK.due("11: the other half begins at 60", half.waitFor(120, 60, 60), 60);
        half.run(61);
        CHECK.due("11: the other half begins at 180", half.waitFor(120, 60, 60), 119);
        half.run(118);
        CHECK.due("11: one before", half.waitFor(120, 60, 60), 1);
        half.run(1);
        CHECK.due("11: the other half begins now", half.waitFor(120, 60, 60), 0);
        longestWait();
    }

    /** In each cycle only the ticks 0 to 56 are free together, and at 120 one tick of promise 1 is late. */
    private static void longestWait() {
        PromiseMarket market = withTwoProcesses();
        market.run(57);
        market.promise(0, 120, 1, 1);
        market.run(1);
        market.promise(0, 120, 1, 92);
        market.promise(0, 120, 1, 1);
        market.run(1);
        market.end(2);
        market.promise(0, 120, 61, 61);
        market.run(60);
        CHECK.due("11: it would be 121", market.waitFor(120, 57, 57), -1);
        market.run(1);
        CHECK.due("11: the late tick", market.told(1, 6), 1);
        CHECK.due("11: 120", market.waitFor(120, 57, 57), 120);
        market.run(120);
        CHECK.due("11: as predicted", market.canAccept(120, 57, 57), true);
    }

    private static void end() {
        PromiseMarket market = withTwoProcesses();
        market.promise(0, 10, 6, 8);
        market.promise(0, 120, 2, 120);
        market.run(2);
        market.ask(0, 50);
        market.lease(0, 1, 3, 1);
        String other = Setups.promiseOf(market, 1);
        CHECK.dueIndex("12: end(2)", () -> market.end(2));
        CHECK.dueIndex("12: end(-1)", () -> market.end(-1));
        CHECK.due("12: end(0), 4 of 6 are left", market.end(0), 4);
        CHECK.due("12: told", Setups.promiseOf(market, 0), "1 0 10 6 8 -1 -1 -1 -1 -1 -1 0 0 0 2 1 0");
        CHECK.due("12: the other promise", Setups.promiseOf(market, 1), other);
        CHECK.due("12: count(2)", market.count(2), 2);
        CHECK.due("12: count(3)", market.count(3), 1);
        CHECK.dueState("12: end(0) again", () -> market.end(0));
        market.run(20);
        CHECK.due("12: none is released", market.told(0, 15), 1);
        CHECK.due("12: the other got its ticks", market.told(1, 14), 2);
        CHECK.due("12: end(1), all of its job is used", market.end(1), 0);

        PromiseMarket early = withTwoProcesses();
        early.promise(0, 10, 2, 4);
        CHECK.due("12: end before the first job", early.end(0), 0);
        early.promise(0, 10, 2, 4);
        early.run(5);
        CHECK.due("12: end between two jobs", early.end(1), 0);
    }

    private static void split() {
        PromiseMarket market = withTwoProcesses();
        market.promise(1, 10, 6, 8);
        CHECK.due("13: split before the first job", market.split(0, 5), 1);
        CHECK.due("13: the promise", Setups.promiseOf(market, 0), "0 1 10 5 8 0 -1 -1 -1 -1 -1 0 0 0 0 0 0");
        CHECK.due("13: the new one", Setups.promiseOf(market, 1), "0 1 10 1 8 0 -1 -1 -1 -1 -1 0 0 0 0 0 0");
        market.run(2);
        CHECK.due("13: split, 3 of 5 are left, 2 are kept", market.split(0, 2), 2);
        CHECK.due("13: the promise", Setups.promiseOf(market, 0), "0 1 10 2 8 10 2 8 1 -1 -1 0 0 0 2 1 0");
        CHECK.due("13: the new one", Setups.promiseOf(market, 2), "0 1 10 3 8 10 1 8 1 -1 -1 0 0 0 0 0 0");
        CHECK.due("13: split, 1 of 3 is left and kept", market.split(2, 2), 3);
        CHECK.due("13: the promise", market.told(2, 6), 1);
        CHECK.due("13: the new one has a job of nothing", Setups.promiseOf(market, 3),
                "0 1 10 1 8 10 0 8 1 -1 -1 0 0 0 0 0 0");
        market.run(6);
        CHECK.due("13: split without a job", market.split(0, 1), 4);
        CHECK.due("13: the new one", Setups.promiseOf(market, 4), "0 1 10 1 8 10 -1 -1 -1 -1 -1 0 0 0 0 0 0");
        market.run(2 + 360);
        CHECK.due("13: no job is missed", market.count(12), 0);
        CHECK.due("18: the load is the same", market.load(), 1 / 10.0 + 1 / 10.0 + 2 / 10.0 + 1 / 10.0 + 1 / 10.0);
    }

    private static void splitOfLeased() {
        PromiseMarket market = withTwoProcesses();
        market.promise(0, 10, 6, 8);
        market.lease(0, 1, 3, 0);
        market.ask(0, 77);
        market.run(1);
        market.buy(0, 1);
        market.ask(0, 78);
        market.split(0, 1);
        CHECK.due("13: the lease and the price stay", Setups.promiseOf(market, 0),
                "0 1 10 1 8 10 1 8 1 78 1 2 0 0 1 1 0");
        CHECK.due("13: neither goes along, the holder does", Setups.promiseOf(market, 1),
                "0 1 10 5 8 10 4 8 1 -1 -1 0 0 0 0 0 0");

        PromiseMarket other = withTwoProcesses();
        other.promise(0, 10, 6, 8);
        other.lease(0, 1, 1, 0);
        other.run(1);
        other.split(0, 3);
        CHECK.due("13: the owner", other.told(1, 1), 0);
        CHECK.due("13: the holder", other.told(1, 8), 1);
    }

    private static void refusedSplit() {
        PromiseMarket market = withTwoProcesses();
        market.promise(0, 120, 30, 120);
        market.promise(0, 120, 1, 120);
        int[] wrong = {0, -1, 30, 31, Integer.MIN_VALUE, Integer.MAX_VALUE};
        for (int part : wrong) {
            CHECK.dueArgument("13: split(0, " + part + ")", () -> market.split(0, part));
        }
        CHECK.dueArgument("13: a budget of 1 has no parts", () -> market.split(1, 1));
        CHECK.dueIndex("13: split(2, 0)", () -> market.split(2, 0));
        CHECK.dueIndex("13: split(-1, 1)", () -> market.split(-1, 1));
        market.end(1);
        for (int i = 2; i < 20; i++) {
            CHECK.due("13: split(0, ..)", market.split(0, 31 - i), i);
        }
        String before = Setups.countsOf(market) + Setups.promiseOf(market, 0);
        CHECK.dueState("13: there are 20", () -> market.split(0, 1));
        CHECK.dueArgument("13: there are 20, wrong besides", () -> market.split(0, 12));
        CHECK.due("13: all after exceptions", Setups.countsOf(market) + Setups.promiseOf(market, 0), before);

        PromiseMarket ended = withTwoProcesses();
        ended.promise(0, 120, 30, 120);
        ended.end(0);
        CHECK.dueState("13: it has ended", () -> ended.split(0, 1));
        CHECK.dueArgument("13: it has ended, wrong besides", () -> ended.split(0, 30));
    }

    /** The holder uses, then sells, then wastes; the lessee is the holder of two jobs. */
    private static void told() {
        PromiseMarket market = Setups.market("process 100 1 0; process 50 5 7; promise 0 10 4 5 ask 9;");
        market.lease(0, 1, 2, 3);
        market.setBid(1, 20);
        CHECK.due("14: at first", Setups.promiseOf(market, 0), "0 0 10 4 5 0 -1 -1 -1 9 1 2 0 0 0 0 0");
        market.run(4);
        CHECK.due("14: the lessee has used it", Setups.promiseOf(market, 0), "0 0 10 4 5 10 0 5 1 9 1 1 4 0 0 1 0");
        market.run(1);
        CHECK.due("14: without a job", Setups.promiseOf(market, 0), "0 0 10 4 5 10 -1 -1 -1 9 1 1 4 0 0 1 0");
        market.addWork(1, 1);
        market.run(9);
        CHECK.due("14: the last job of the lease", Setups.promiseOf(market, 0),
                "0 0 10 4 5 20 0 15 1 9 -1 0 4 0 4 2 0");
        market.run(6);
        market.addWork(0, 1);
        market.addWork(1, 1);
        market.run(4);
        CHECK.due("14: the owner uses one, sells one, wastes two", Setups.promiseOf(market, 0),
                "0 0 10 4 5 30 0 25 0 9 -1 0 5 1 6 3 0");
        CHECK.dueArgument("14: told(0, 17)", () -> market.told(0, 17));
        CHECK.dueArgument("14: told(0, -1)", () -> market.told(0, -1));
        CHECK.dueIndex("14: told(1, 17)", () -> market.told(1, 17));
        CHECK.dueIndex("14: told(-1, 0)", () -> market.told(-1, 0));
    }
}
