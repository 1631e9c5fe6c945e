/** Promises 1 to 7. */
public final class ProcessesTest {
    private static final Check CHECK = new Check();

    public static void main(String[] args) {
        newObject();
        addProcess();
        setBid();
        setArrival();
        addWork();
        pay();
        process();
        CHECK.end();
    }

    private static void newObject() {
        PromiseMarket market = new PromiseMarket();
        CHECK.due("1: counts", Setups.countsOf(market), "0 0 0 0 5 10 0 0 0 0 0 0 0");
        CHECK.due("1: bank()", market.bank(), 0L);
        CHECK.due("1: load()", market.load(), 0.0);
        CHECK.due("1: spare()", market.spare(), 360);
        CHECK.due("1: tightest()", market.tightest(), 1);
        CHECK.due("1: sales", Setups.salesOf(market), "0 -1.0");
        CHECK.due("1: errorCode()", market.errorCode(), 0);
        CHECK.due("1: errorPosition()", market.errorPosition(), -1);
        CHECK.due("1: truncateText(0)", market.truncateText(0), 0);
        CHECK.dueArgument("1: truncateText(1)", () -> market.truncateText(1));
        CHECK.dueIndex("1: process(0, 0)", () -> market.process(0, 0));
        CHECK.dueIndex("1: told(0, 0)", () -> market.told(0, 0));
        CHECK.dueState("1: restore(0)", () -> market.restore(0));
        CHECK.dueState("1: restore(1)", () -> market.restore(1));
    }

    private static void addProcess() {
        PromiseMarket market = new PromiseMarket();
        int[][] wrong = {{-1, 0, 0}, {1000001, 0, 0}, {0, -1, 0}, {0, 10000, 0}, {0, 0, -1}, {0, 0, 100},
            {Integer.MIN_VALUE, 0, 0}, {0, Integer.MAX_VALUE, 0}, {0, 0, Integer.MAX_VALUE}};
        for (int[] w : wrong) {
            CHECK.dueArgument("2: a wrong argument", () -> market.addProcess(w[0], w[1], w[2]));
        }
        CHECK.due("2: addProcess(0, 0, 0)", market.addProcess(0, 0, 0), 0);
        CHECK.due("2: addProcess(1000000, 9999, 99)", market.addProcess(1000000, 9999, 99), 1);
        CHECK.due("2: process 0", Setups.processOf(market, 0), "0 0 0 0 0 0 0 0 0 0 0 0");
        CHECK.due("2: process 1", Setups.processOf(market, 1), "1000000 9999 99 0 0 0 0 0 0 0 0 0");
        for (int i = 2; i < 8; i++) {
            CHECK.due("2: addProcess(5, 6, 7)", market.addProcess(5, 6, 7), i);
        }
        String before = Setups.everythingOf(market);
        CHECK.dueState("2: a 9th process", () -> market.addProcess(0, 0, 0));
        CHECK.dueArgument("2: a 9th process, wrong besides", () -> market.addProcess(0, 0, 100));
        CHECK.due("2: all after exceptions", Setups.everythingOf(market), before);
        CHECK.due("2: count(1)", market.count(1), 8);
    }

    private static void setBid() {
        PromiseMarket market = new PromiseMarket();
        market.addProcess(1, 2, 3);
        CHECK.due("3: setBid(0, 99)", market.setBid(0, 99), 3);
        CHECK.due("3: setBid(0, 0)", market.setBid(0, 0), 99);
        CHECK.due("3: setBid(0, 4)", market.setBid(0, 4), 0);
        CHECK.dueArgument("3: setBid(0, 100)", () -> market.setBid(0, 100));
        CHECK.dueArgument("3: setBid(0, -1)", () -> market.setBid(0, -1));
        CHECK.dueIndex("3: setBid(1, 5)", () -> market.setBid(1, 5));
        CHECK.dueIndex("3: setBid(-1, 5)", () -> market.setBid(-1, 5));
        CHECK.dueIndex("3: setBid(1, 100)", () -> market.setBid(1, 100));
        CHECK.due("3: process 0", Setups.processOf(market, 0), "1 2 4 0 0 0 0 0 0 0 0 0");
    }

    private static void setArrival() {
        PromiseMarket market = new PromiseMarket();
        market.addProcess(0, 0, 0);
        market.setArrival(0, 3, 2);
        market.run(4);
        CHECK.due("4: at the times 0 and 3, 2 each", Setups.processOf(market, 0), "0 1 0 3 2 0 0 3 0 0 0 0");
        CHECK.due("4: idle at the time 2", market.count(11), 1);
        market.setArrival(0, 0, 60);
        market.run(9);
        CHECK.due("4: with EVERY 0 nothing", Setups.processOf(market, 0), "0 0 0 0 60 0 0 4 0 0 0 0");
        market.setArrival(0, 60, 60);
        market.addProcess(0, 9990, 0);
        market.setArrival(1, 13, 60);
        market.run(1);
        CHECK.due("4: at most 9999, of which one runs", market.process(1, 1), 9998);
        CHECK.due("4: EVERY 60 is not due at 13", market.process(0, 1), 0);
        CHECK.dueIndex("4: setArrival(2, 61, 0)", () -> market.setArrival(2, 61, 0));
        CHECK.dueIndex("4: setArrival(-1, 1, 0)", () -> market.setArrival(-1, 1, 0));
        int[][] wrong = {{-1, 0}, {61, 0}, {0, -1}, {0, 61}, {Integer.MAX_VALUE, 1}};
        for (int[] w : wrong) {
            CHECK.dueArgument("4: a wrong argument", () -> market.setArrival(0, w[0], w[1]));
        }
        CHECK.due("4: EVERY then", market.process(0, 3), 60);
        CHECK.due("4: AMOUNT then", market.process(0, 4), 60);
    }

    private static void addWork() {
        PromiseMarket market = new PromiseMarket();
        market.addProcess(0, 7000, 0);
        CHECK.due("5: addWork(0, 1)", market.addWork(0, 1), 7001);
        CHECK.due("5: addWork(0, 1000)", market.addWork(0, 1000), 8001);
        CHECK.due("5: addWork(0, 1000)", market.addWork(0, 1000), 9001);
        CHECK.dueArgument("5: addWork(0, 0)", () -> market.addWork(0, 0));
        CHECK.dueArgument("5: addWork(0, 1001)", () -> market.addWork(0, 1001));
        CHECK.dueIndex("5: addWork(1, 0)", () -> market.addWork(1, 0));
        CHECK.dueIndex("5: addWork(-1, 1)", () -> market.addWork(-1, 1));
        CHECK.due("5: addWork(0, 999)", market.addWork(0, 999), 9999);
        CHECK.due("5: addWork(0, 1)", market.addWork(0, 1), 9999);
        CHECK.due("5: process(0, 1)", market.process(0, 1), 9999);
    }

    private static void pay() {
        PromiseMarket market = new PromiseMarket();
        market.addProcess(985000, 0, 0);
        CHECK.due("6: pay(0, 1)", market.pay(0, 1), 985001);
        CHECK.due("6: pay(0, 10000)", market.pay(0, 10000), 995001);
        CHECK.dueArgument("6: pay(0, 0)", () -> market.pay(0, 0));
        CHECK.dueArgument("6: pay(0, 10001)", () -> market.pay(0, 10001));
        CHECK.dueIndex("6: pay(1, 0)", () -> market.pay(1, 0));
        CHECK.dueIndex("6: pay(-1, 1)", () -> market.pay(-1, 1));
        CHECK.due("6: process(0, 0)", market.process(0, 0), 995001);
        CHECK.due("6: pay(0, 4999)", market.pay(0, 4999), 1000000);
        CHECK.due("6: pay(0, 10000)", market.pay(0, 10000), 1000000);
    }

    /** The job of the promise has three ticks: one is used, one sold, one wasted; a free tick follows. */
    private static void process() {
        PromiseMarket market = new PromiseMarket();
        market.addProcess(100, 1, 0);
        market.addProcess(10, 3, 7);
        market.setArrival(1, 50, 0);
        market.promise(0, 4, 3, 4);
        market.run(4);
        CHECK.due("7: process 0", Setups.processOf(market, 0), "102 0 0 0 0 1 0 0 7 0 5 1");
        CHECK.due("7: process 1", Setups.processOf(market, 1), "3 1 7 50 0 0 1 1 0 7 0 0");
        CHECK.dueArgument("7: process(0, -1)", () -> market.process(0, -1));
        CHECK.dueArgument("7: process(0, 12)", () -> market.process(0, 12));
        CHECK.dueIndex("7: process(2, 0)", () -> market.process(2, 0));
        CHECK.dueIndex("7: process(-1, 12)", () -> market.process(-1, 12));
        market.promise(0, 120, 1, 120);
        CHECK.due("7: process(0, 11) with two", market.process(0, 11), 2);
        market.end(0);
        CHECK.due("7: process(0, 11) with one ended", market.process(0, 11), 1);
    }
}
