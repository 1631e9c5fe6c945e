/** Promises 15 to 19. */
public final class DemandTest {
    private static final Check CHECK = new Check();

    public static void main(String[] args) {
        demand();
        tightest();
        isBounded();
        load();
        spare();
        CHECK.end();
    }

    private static void demand() {
        PromiseMarket market = Setups.market("process 0 0 0; promise 0 4 2 3; promise 0 120 7 120;");
        int[][] due = {{1, 0}, {2, 0}, {3, 2}, {6, 2}, {7, 4}, {119, 60}, {120, 67}, {239, 127}, {240, 134}};
        for (int[] d : due) {
            CHECK.due("15: demand(" + d[0] + ")", market.demand(d[0]), d[1]);
        }
        int[] wrong = {0, 241, -1, Integer.MIN_VALUE, Integer.MAX_VALUE};
        for (int ticks : wrong) {
            CHECK.dueArgument("15: demand(" + ticks + ")", () -> market.demand(ticks));
        }
        market.run(50);
        CHECK.due("15: the time does not matter", market.demand(240), 134);
        market.end(0);
        CHECK.due("15: one that ended does not count", market.demand(240), 14);
    }

    private static void tightest() {
        PromiseMarket market = Setups.market("process 0 0 0; promise 0 4 2 2;");
        CHECK.due("16: no tick is spare in 2", market.tightest(), 2);
        market.end(0);
        CHECK.due("16: one that ended does not count", market.tightest(), 1);
        market.promise(0, 4, 3, 4);
        CHECK.due("16: 1 is left in 1, as in 4", market.tightest(), 1);
        market.promise(0, 4, 1, 4);
        CHECK.due("16: none is left in 4, as in 8", market.tightest(), 4);

        PromiseMarket below = Setups.market("process 0 0 0; promise 0 120 3 3;");
        below.run(3);
        below.promise(0, 120, 3, 3);
        CHECK.due("16: 3 less 6", below.tightest(), 3);
        below.promise(0, 120, 110, 120);
        CHECK.due("16: 120 less 116, 123 less 122, still 3 less 6", below.tightest(), 3);

        PromiseMarket last = Setups.market("process 0 0 0; promise 0 120 120 120;");
        CHECK.due("16: 120 less 120", last.tightest(), 120);
        last.end(0);
        last.promise(0, 120, 1, 120);
        CHECK.due("16: 1 less 0, 240 less 2", last.tightest(), 1);
    }

    private static void isBounded() {
        PromiseMarket market = new PromiseMarket();
        CHECK.due("17: all the time", market.isBounded(4, 4, 4), true);
        market.addProcess(0, 0, 0);
        market.promise(0, 4, 2, 2);
        CHECK.due("17: 4 in 2", market.isBounded(4, 2, 2), false);
        CHECK.due("17: 4 in 4", market.isBounded(4, 2, 4), true);
        CHECK.due("17: 60 and 59 in 119", market.isBounded(120, 59, 119), true);
        CHECK.due("17: 60 and 59 in 118", market.isBounded(120, 59, 118), false);
        CHECK.due("17: 60 and 61 in 120", market.isBounded(120, 61, 120), false);
        CHECK.due("17: 60 and 60 in 120", market.isBounded(120, 60, 120), true);
        market.end(0);
        CHECK.due("17: one that ended does not count", market.isBounded(4, 4, 4), true);
        int[][] wrong = {{7, 1, 1}, {0, 1, 1}, {4, 0, 1}, {4, 2, 1}, {4, 2, 5}, {120, 121, 121}, {-4, 1, 1}};
        for (int[] w : wrong) {
            CHECK.dueArgument("17: a wrong argument", () -> market.isBounded(w[0], w[1], w[2]));
        }
        CHECK.due("17: nothing is left behind", market.count(2), 1);

        // two promises that begin at different times can be kept though their demand is too great
        PromiseMarket other = Setups.market("process 0 0 0; promise 0 120 1 1;");
        other.run(1);
        CHECK.due("9: later", other.canAccept(120, 1, 1), true);
        CHECK.due("17: the time does not matter", other.isBounded(120, 1, 1), false);
    }

    private static void load() {
        PromiseMarket market = new PromiseMarket();
        CHECK.due("18: without promises", market.load(), 0.0);
        market.addProcess(0, 0, 0);
        market.promise(0, 3, 1, 3);
        market.promise(0, 10, 1, 10);
        market.promise(0, 15, 2, 15);
        CHECK.due("18: by ascending numbers", market.load(), 1.0 / 3.0 + 1.0 / 10.0 + 2.0 / 15.0);
        market.end(1);
        CHECK.due("18: one has ended", market.load(), 1.0 / 3.0 + 2.0 / 15.0);
        market.end(0);
        market.end(2);
        CHECK.due("18: all have ended", market.load(), 0.0);
    }

    private static void spare() {
        PromiseMarket market = Setups.market("process 0 0 0; promise 0 120 10 120;");
        CHECK.due("19: 30 ticks are promised", market.spare(), 330);
        market.run(5);
        CHECK.due("19: 5 are left, 10, 10 and 5 come", market.spare(), 330);
        market.run(5);
        CHECK.due("19: none is left, 10, 10 and 10 come", market.spare(), 330);
        market.run(60);
        market.promise(0, 120, 10, 120);
        CHECK.due("19: from 70 to 430", market.spare(), 300);
        market.run(4);
        market.end(0);
        CHECK.due("19: 6 are left, 10 and 10 come, the last 4 of the next", market.spare(), 330);
        market.end(1);
        CHECK.due("19: all have ended", market.spare(), 360);
        PromiseMarket full = Setups.market("process 0 0 0; promise 0 4 2 3; promise 0 2 1 2;");
        CHECK.due("19: nothing is spare", full.spare(), 0);
        CHECK.due("19: time has not passed", full.count(0), 0);
    }
}
