/**
 * The class against itself, on twins (see Script): what is predicted comes true when only time passes, a
 * prediction changes nothing, a saved state goes on as if nothing had come between, and figures agree.
 */
public final class TwinsTest {
    private static final int SCRIPTS = 150;
    private static final Check CHECK = new Check();

    private final Script script;
    private final String name;

    private TwinsTest(long seed) {
        script = new Script(seed, 20 + (int) (seed % 7) * 8);
        name = "script " + seed + ": ";
    }

    public static void main(String[] args) {
        for (long seed = 1; seed <= SCRIPTS; seed++) {
            TwinsTest test = new TwinsTest(seed);
            test.acceptance();
            test.greatestBudget();
            test.waitFor();
            test.spare();
            test.moneyAfter();
            test.ticksToFinish();
            test.demand();
            test.load();
            test.figuresAgree(test.script.make());
            test.figuresAgree(test.after(137));
            test.runInParts();
            if (seed % 5 == 0) {
                test.bestBid();
                test.predictionsChangeNothing();
                test.savedState();
            }
        }
        CHECK.end();
    }

    private void due(String what, Object got, Object want) {
        CHECK.due(name + what, got, want);
    }

    private PromiseMarket after(int ticks) {
        PromiseMarket market = script.make();
        market.run(ticks);
        return market;
    }

    // ---- predictions

    private void acceptance() {
        for (int i = 0; i < 8 && script.hasRoom(); i++) {
            int[] terms = script.someTerms();
            boolean isMade = Script.tryOn(script.make(), market -> market.promise(0, terms[0], terms[1], terms[2]));
            due("9: canAccept", script.make().canAccept(terms[0], terms[1], terms[2]), isMade);
        }
    }

    private void greatestBudget() {
        int[] terms = script.someTerms();
        PromiseMarket market = script.make();
        int greatest = 0;
        for (int budget = 1; budget <= terms[2]; budget++) {
            greatest = market.canAccept(terms[0], budget, terms[2]) ? budget : greatest;
        }
        due("10: greatestBudget", market.greatestBudget(terms[0], terms[2]), greatest);
    }

    private void waitFor() {
        int[] terms = script.someTerms();
        PromiseMarket market = script.make();
        int ticks = 0;
        while (ticks <= 120 && !market.canAccept(terms[0], terms[1], terms[2])) {
            market.run(1);
            ticks++;
        }
        due("11: waitFor", script.make().waitFor(terms[0], terms[1], terms[2]), ticks > 120 ? PromiseMarket.NONE : ticks);
    }

    private void spare() {
        PromiseMarket market = script.make();
        int before = market.count(10) + market.count(11);
        int spare = market.spare();
        market.run(360);
        due("19: spare", spare, market.count(10) + market.count(11) - before);
    }

    private void moneyAfter() {
        int process = script.anyProcess();
        for (int ticks : new int[] {1, 2, 9, 77, 500}) {
            due("32: moneyAfter " + ticks, script.make().moneyAfter(process, ticks), after(ticks).process(process, 0));
        }
    }

    private void ticksToFinish() {
        int process = script.anyProcess();
        PromiseMarket market = script.make();
        int ticks = 0;
        while (ticks <= 100 && market.process(process, 1) > 0) {
            market.run(1);
            ticks++;
        }
        boolean isLater = ticks > 100;
        due("31: ticksToFinish", script.make().ticksToFinish(process, 100), isLater ? PromiseMarket.NONE : ticks);
        if (!isLater && ticks > 1) {
            due("31: just in time", script.make().ticksToFinish(process, ticks), ticks);
            due("31: a tick too late", script.make().ticksToFinish(process, ticks - 1), PromiseMarket.NONE);
        }
    }

    private void bestBid() {
        int process = script.anyProcess();
        int ticks = 1 + script.upTo(60);
        int best = 0;
        PromiseMarket before = withBid(process, 0, ticks);
        for (int bid = 1; bid <= 99; bid++) {
            PromiseMarket market = withBid(process, bid, ticks);
            int less = before.process(process, 1) - market.process(process, 1);
            if (less > 0 || less == 0 && market.process(process, 0) > before.process(process, 0)) {
                best = bid;
                before = market;
            }
        }
        due("33: bestBid of " + process + " in " + ticks, script.make().bestBid(process, ticks), best);
    }

    private PromiseMarket withBid(int process, int bid, int ticks) {
        PromiseMarket market = script.make();
        market.setBid(process, bid);
        market.run(ticks);
        return market;
    }

    private void predictionsChangeNothing() {
        int[] terms = script.someTerms();
        int process = script.anyProcess();
        String want = script.seenAfter();
        due("predictions change nothing", script.seenAfter(market -> {
            market.canAccept(terms[0], terms[1], terms[2]);
            market.greatestBudget(terms[0], terms[2]);
            market.waitFor(terms[0], terms[1], terms[2]);
            market.isBounded(terms[0], terms[1], terms[2]);
            market.tightest();
            market.spare();
            market.ticksToFinish(process, 500);
            market.moneyAfter(process, 500);
            market.bestBid(process, 120);
        }), want);
    }

    // ---- figures that follow from others

    private void demand() {
        PromiseMarket market = script.make();
        int[] demand = new int[241];
        int tightest = 1;
        for (int ticks = 1; ticks <= 240; ticks++) {
            demand[ticks] = market.demand(ticks);
            tightest = ticks - demand[ticks] < tightest - demand[tightest] ? ticks : tightest;
        }
        due("16: tightest", market.tightest(), tightest);
        for (int ticks : new int[] {1, 2, 7, 59, 97, 120, 239, 240}) {
            due("15: demand", demand[ticks], demandIn(ticks, script.make()));
        }
        int[] terms = script.someTerms();
        boolean isBounded = true;
        for (int ticks = 1; ticks <= 240; ticks++) {
            int more = ticks < terms[2] ? 0 : terms[1] * ((ticks - terms[2]) / terms[0] + 1);
            isBounded &= demand[ticks] + more <= ticks;
        }
        due("17: isBounded", market.isBounded(terms[0], terms[1], terms[2]), isBounded);
    }

    /** Counts the absolute deadlines of all jobs of promises whose first jobs are released together. */
    private static int demandIn(int ticks, PromiseMarket market) {
        int sum = 0;
        for (int i = market.count(2) - 1; i >= 0; i--) {
            int period = market.told(i, 2);
            int budget = market.told(i, 0) == 1 ? 0 : market.told(i, 3);
            for (int due = market.told(i, 4); due <= ticks; due += period) {
                sum += budget;
            }
        }
        return sum;
    }

    private void load() {
        PromiseMarket market = script.make();
        double sum = 0.0;
        int promises = market.count(2);
        for (int i = 0; i < promises; i++) {
            sum += market.told(i, 0) == 1 ? 0.0 : (double) market.told(i, 3) / (double) market.told(i, 2);
        }
        due("18: load", market.load(), sum);
    }

    /** Each tick is counted where it belongs, and no job is missed. */
    private void figuresAgree(PromiseMarket market) {
        int ticks = 0;
        for (int what = 7; what <= 11; what++) {
            ticks += market.count(what);
        }
        due("28: every tick is one of five", ticks, market.count(0));
        due("28: missed jobs", market.count(12), 0);
        due("28: used ticks", sumOfProcesses(market, 5) + " " + sumOfPromises(market, 12), market.count(7) + " " + market.count(7));
        due("28: sold ticks", sumOfProcesses(market, 6) + " " + sumOfPromises(market, 13), market.count(8) + " " + market.count(8));
        due("28: wasted ticks", sumOfPromises(market, 14), market.count(9));
        due("28: free ticks", sumOfProcesses(market, 7), market.count(10));
        due("7: what is paid for ticks is what they are sold for", sumOfProcesses(market, 8), sumOfProcesses(market, 9));
        due("7: promises not ended", sumOfProcesses(market, 11), market.count(3));
        due("29: the bank has the penalties at least", market.bank() >= sumOfProcesses(market, 10), true);
        due("24: sales", sumOfSales(market), market.count(6));
        due("26: mean price", market.meanPrice() < 0, market.count(6) == 0);
    }

    private static int sumOfProcesses(PromiseMarket market, int what) {
        int sum = 0;
        for (int i = market.count(1) - 1; i >= 0; i--) {
            sum += market.process(i, what);
        }
        return sum;
    }

    private static int sumOfPromises(PromiseMarket market, int what) {
        int sum = 0;
        for (int i = market.count(2) - 1; i >= 0; i--) {
            sum += market.told(i, what);
        }
        return sum;
    }

    private static int sumOfSales(PromiseMarket market) {
        int sum = 0;
        int processes = market.count(1);
        for (int pair = 0; pair < processes * processes; pair++) {
            sum += market.sales(pair / processes, pair % processes);
        }
        return sum;
    }

    // ---- time and saved states

    private void runInParts() {
        PromiseMarket whole = script.make();
        PromiseMarket parts = script.make();
        int wasted = parts.run(1) + parts.run(38) + parts.run(1) + parts.run(60);
        due("30: run() answers the wasted ticks", whole.run(100), wasted);
        due("30: heads", Script.heads(parts), Script.heads(whole));
        due("30: promises", Script.promises(after(100)), Script.promises(whole));
    }

    /** A state that is brought back goes on as if nothing had come between, also behind a setup. */
    private void savedState() {
        String want = script.seenAfter();
        due("39: save() changes nothing", script.seenAfter(market -> market.save(0)), want);
        Script.Act[] between = new Script.Act[30];
        for (int i = 0; i < between.length; i++) {
            between[i] = script.someAct();
        }
        due("40: all comes back", script.seenAfter(market -> {
            market.save(1);
            for (Script.Act act : between) {
                Script.tryOn(market, act);
            }
            market.restore(1);
        }), want);
        due("40: all comes back behind a setup", script.seenAfter(market -> {
            market.save(0);
            Setups.read(market, "penalty 1;fee 2;process 3 4 5 every 2 1;promise 0 6 2 4 ask 5;");
            market.run(50);
            market.restore(0);
        }), want);
    }
}
