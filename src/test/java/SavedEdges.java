/** Promises 39 and 40. */
final class SavedEdges extends Edges {
    private static final String SAVES = "Saves everything except the text buffer, the latest error and the saved states.";

    SavedEdges(Record record) {
        super(record);
    }

    @Override
    void test() {
        savesEverything();
        savesTheLatestFreeTick();
        savesNotTheTextBuffer();
        savesNotTheLatestError();
        savesNotTheSavedStates();
        slotsOfSave();
        restoredStateStaysSaved();
        whatCameBehindTheSaveIsGone();
        slotsOfRestore();
    }

    /** A market in the middle of all that can go on. */
    private static PromiseMarket lively() {
        PromiseMarket market = Setups.market("penalty 6;fee 11;process 500 0 9;process 500 0 30;process 0 0 0;"
                + "promise 0 4 1 3 ask 10;promise 1 10 3 8;promise 2 60 9 60;");
        market.run(25);
        market.addWork(0, 9);
        market.setArrival(1, 7, 2);
        market.addWork(2, 3);
        market.run(9);
        market.buy(0, 1);
        market.lease(0, 0, 9, 2);
        market.ask(1, 40);
        market.run(8);
        market.split(1, 1);
        market.end(2);
        return market;
    }

    /** Leaves no figure as it was: the first ticks are wasted, idle and free, the others used and sold. */
    private static void changeAll(PromiseMarket market) {
        market.setArrival(1, 0, 0);
        market.run(60);
        market.addProcess(1, 1, 1);
        market.setBid(0, 50);
        market.setArrival(1, 2, 9);
        market.setRules(1, 1);
        market.buy(1, 0);
        market.promise(3, 120, 1, 120);
        market.run(30);
        market.end(0);
        market.pay(2, 5);
        market.addWork(2, 5);
    }

    private void savesEverything() {
        quote("Promise 39", SAVES);
        PromiseMarket market = lively();
        String before = Setups.everythingOf(market);
        market.save(0);
        due("save() itself changes nothing", Setups.everythingOf(market), before);
        changeAll(market);
        market.restore(0);
        due("everything is as it was", Setups.everythingOf(market), before);
        PromiseMarket later = lively();
        later.save(1);
        changeAll(later);
        later.restore(1);
        later.run(50);
        PromiseMarket twin = lively();
        twin.run(50);
        due("and goes on as it would have", Setups.everythingOf(later), Setups.everythingOf(twin));
        PromiseMarket empty = new PromiseMarket();
        empty.save(0);
        changeAllOf(empty);
        empty.restore(0);
        due("the state of a new object", Setups.everythingOf(empty), Setups.everythingOf(new PromiseMarket()));
    }

    private static void changeAllOf(PromiseMarket empty) {
        empty.addProcess(9, 9, 9);
        empty.promise(0, 4, 2, 4);
        empty.setRules(0, 0);
        empty.run(9);
    }

    private void savesTheLatestFreeTick() {
        quote("Promise 39", SAVES);
        PromiseMarket market = Setups.market("process 0 9 0; process 0 9 0; process 0 9 0;");
        market.save(1);
        market.run(1);
        market.save(0);
        market.run(1);
        market.restore(0);
        market.run(1);
        due("process 1 comes behind 0", market.process(0, 7) + " " + market.process(1, 7) + " " + market.process(2, 7), "1 1 0");
        market.restore(1);
        market.run(1);
        due("process 0 comes first, as there was none yet", market.process(0, 7), 1);
    }

    private void savesNotTheTextBuffer() {
        quote("Promise 39", SAVES);
        PromiseMarket market = new PromiseMarket();
        Setups.put(market, "fee 7;");
        market.save(0);
        market.truncateText(4);
        market.appendText(0x393b2020);
        market.restore(0);
        due("the text that came later stays", market.read() + " " + market.count(5), "0 9");
        market.restore(0);
        due("the text of then is not brought back", market.truncateText(0), 0);
        dueArgument("not a byte of it", () -> market.truncateText(1));
    }

    private void savesNotTheLatestError() {
        quote("Promise 39", SAVES);
        PromiseMarket market = new PromiseMarket();
        Setups.read(market, "fee 51;");
        market.save(0);
        Setups.read(market, "x");
        market.restore(0);
        due("the later error stays", market.errorCode() + " " + market.errorPosition(), "1 0");
        Setups.read(market, "");
        market.restore(0);
        due("as does that there is none", market.errorCode() + " " + market.errorPosition(), "0 -1");
    }

    private void savesNotTheSavedStates() {
        quote("Promise 39", SAVES);
        PromiseMarket market = Setups.market("process 1 0 0;");
        market.save(0);
        market.pay(0, 1);
        market.save(1);
        market.restore(0);
        due("slot 0", market.process(0, 0), 1);
        market.restore(1);
        due("slot 1, which was empty when slot 0 was saved", market.process(0, 0), 2);
        market.restore(0);
        due("slot 0 again", market.process(0, 0), 1);
    }

    private void slotsOfSave() {
        quote("Promise 39", "slot: 0 or 1; a state that is already saved there is replaced");
        for (int slot = 0; slot <= 1; slot++) {
            int other = 1 - slot;
            PromiseMarket market = Setups.market("process 1 0 0;");
            market.save(slot);
            dueState("the other slot is empty", () -> market.restore(other));
            market.pay(0, 1);
            market.save(slot);
            market.save(slot);
            market.pay(0, 1);
            market.restore(slot);
            due("the later state", market.process(0, 0), 2);
            dueState("the other slot is empty still", () -> market.restore(other));
            market.pay(0, 7);
            market.save(other);
            market.restore(slot);
            due("the other slot replaces nothing", market.process(0, 0), 2);
        }
        PromiseMarket market = new PromiseMarket();
        dueArgument("-1", () -> market.save(-1));
        dueArgument("2", () -> market.save(2));
    }

    private void restoredStateStaysSaved() {
        quote("Promise 40", "Brings back a saved state, which stays saved.");
        PromiseMarket market = lively();
        String before = Setups.promiseOf(market, 0) + Setups.processOf(market, 0) + Setups.countsOf(market);
        market.save(0);
        for (int times = 1; times <= 3; times++) {
            changeAll(market);
            market.restore(0);
            due("brought back for the time " + times,
                    Setups.promiseOf(market, 0) + Setups.processOf(market, 0) + Setups.countsOf(market), before);
        }
        Setups.read(market, "process 1 1 1;");
        market.restore(0);
        due("behind a read()", Setups.promiseOf(market, 0) + Setups.processOf(market, 0) + Setups.countsOf(market), before);
        market.run(3);
        market.save(1);
        market.restore(0);
        due("behind another save()", market.count(0), 42);
        market.restore(1);
        due("which is there too", market.count(0), 45);
    }

    /** Numbers of processes and promises that are free again are used as if for the first time. */
    private void whatCameBehindTheSaveIsGone() {
        quote("Promise 40", "Brings back a saved state,");
        PromiseMarket market = new PromiseMarket();
        market.addProcess(5, 0, 1);
        market.save(0);
        liveOn(market);
        market.restore(0);
        due("processes and promises", market.count(1) + " " + market.count(2) + " " + market.process(0, 11), "1 0 0");
        dueIndex("process 1", () -> market.process(1, 0));
        dueIndex("promise 0", () -> market.told(0, 0));
        PromiseMarket fresh = new PromiseMarket();
        fresh.addProcess(5, 0, 1);
        beginAnew(market);
        beginAnew(fresh);
        due("new ones of those numbers", Setups.everythingOf(market), Setups.everythingOf(fresh));
        market.run(20);
        fresh.run(20);
        due("20 ticks later", Setups.everythingOf(market), Setups.everythingOf(fresh));
        PromiseMarket other = new PromiseMarket();
        other.addProcess(5, 0, 1);
        other.save(0);
        liveOn(other);
        due("what is left of the job of promise 1", other.told(1, 6), 3);
        other.restore(0);
        beginAnew(other);
        due("what is left of a new promise 1, which has no job yet", other.end(1), 0);
    }

    /** Leaves no figure of a process or promise as it was at first. */
    private static void liveOn(PromiseMarket market) {
        market.addProcess(90, 9, 9);
        market.addProcess(90, 0, 0);
        market.setArrival(1, 2, 1);
        market.setArrival(2, 7, 0);
        market.promise(0, 4, 1, 4);
        market.promise(2, 12, 6, 12);
        market.promise(1, 120, 1, 120);
        market.ask(0, 5);
        market.lease(0, 1, 9, 1);
        market.end(2);
        market.run(13);
        market.setBid(0, 0);
        market.setBid(1, 0);
        market.addWork(2, 1);
        market.lease(1, 1, 9, 1);
        market.run(3);
    }

    private static void beginAnew(PromiseMarket market) {
        market.run(3);
        market.addProcess(5, 0, 1);
        market.addProcess(5, 0, 1);
        for (int i = 0; i < 3; i++) {
            market.promise(i, 12, 2, 6);
        }
    }

    private void slotsOfRestore() {
        quote("Promise 40", "slot: 0 or 1");
        PromiseMarket market = Setups.market("process 1 0 0;");
        dueArgument("-1", () -> market.restore(-1));
        dueArgument("2", () -> market.restore(2));
        dueState("0, empty", () -> market.restore(0));
        dueState("1, empty", () -> market.restore(1));
        market.save(1);
        market.pay(0, 5);
        market.save(0);
        market.restore(1);
        due("1", market.process(0, 0), 1);
        market.restore(0);
        due("0", market.process(0, 0), 6);
    }
}
