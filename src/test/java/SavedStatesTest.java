/** Promises 39 and 40. */
public final class SavedStatesTest {
    private static final Check CHECK = new Check();
    private static final String SETUP = "penalty 6; fee 11; process 500 9 9; process 500 0 30 every 7 2;"
            + "process 0 3 0; promise 0 4 2 3 ask 10; promise 1 10 3 8;";

    public static void main(String[] args) {
        restore();
        numbersUsedAgain();
        latestFreeTick();
        whatIsNotSaved();
        slots();
        CHECK.end();
    }

    private static PromiseMarket busyMarket() {
        PromiseMarket market = Setups.market(SETUP);
        market.run(9);
        market.buy(0, 1);
        market.lease(0, 0, 9, 2);
        market.ask(1, 40);
        market.run(8);
        market.split(1, 1);
        market.end(2);
        return market;
    }

    private static void changeAll(PromiseMarket market) {
        market.addProcess(1, 1, 1);
        market.setBid(0, 50);
        market.setArrival(1, 2, 9);
        market.setRules(1, 1);
        market.buy(1, 0);
        market.promise(3, 120, 1, 120);
        market.run(30);
        market.end(0);
        market.pay(2, 5);
    }

    private static void restore() {
        PromiseMarket market = busyMarket();
        String before = Setups.everythingOf(market);
        market.save(0);
        CHECK.due("39: save() changes nothing", Setups.everythingOf(market), before);
        changeAll(market);
        market.restore(0);
        CHECK.due("40: all is back", Setups.everythingOf(market), before);
        PromiseMarket later = busyMarket();
        PromiseMarket twin = busyMarket();
        later.save(0);
        changeAll(later);
        later.restore(0);
        later.run(50);
        twin.run(50);
        CHECK.due("40: and goes on as before", Setups.everythingOf(later), Setups.everythingOf(twin));
        later.restore(0);
        CHECK.due("40: it stays saved", Setups.everythingOf(later), before);
    }

    /** Processes and promises that came behind the save are gone, and new ones begin anew. */
    private static void numbersUsedAgain() {
        PromiseMarket market = new PromiseMarket();
        market.save(0);
        market.addProcess(90, 2, 9);
        market.addProcess(90, 9, 9);
        market.addProcess(90, 0, 0);
        market.setArrival(0, 2, 1);
        market.setArrival(1, 2, 1);
        market.setArrival(2, 7, 0);
        market.promise(0, 4, 1, 4);
        market.promise(2, 12, 6, 12);
        market.promise(1, 120, 1, 120);
        market.ask(0, 5);
        market.lease(0, 1, 9, 1);
        market.end(2);
        market.run(13);
        market.setBid(0, 0);
        market.setBid(1, 0);
        market.run(3);
        CHECK.due("30: three ticks are wasted", market.told(1, 14), 3);
        CHECK.due("14: some of the job is left", market.told(1, 6), 3);
        market.addProcess(90, 50, 99);
        market.restore(0);
        CHECK.due("40: nothing is there", Setups.everythingOf(market), Setups.everythingOf(new PromiseMarket()));
        PromiseMarket fresh = new PromiseMarket();
        PromiseMarket[] both = {market, fresh};
        for (PromiseMarket one : both) {
            one.run(3);
            for (int i = 0; i < 3; i++) {
                one.addProcess(5, 0, 1);
                one.promise(i, 12, 2, 6);
            }
        }
        CHECK.due("40: those gone leave nothing behind", Setups.everythingOf(market), Setups.everythingOf(fresh));
        market.run(20);
        fresh.run(20);
        CHECK.due("40: nor do they in the ticks", Setups.everythingOf(market), Setups.everythingOf(fresh));
    }

    private static void latestFreeTick() {
        PromiseMarket market = Setups.market("process 0 5 0; process 0 5 0; process 0 5 0;");
        market.run(1);
        market.save(0);
        CHECK.due("31: process 1 has the next free tick", market.ticksToFinish(1, 500), 13);
        CHECK.due("31: process 0 has the one behind that of 2", market.ticksToFinish(0, 500), 12);
        market.run(1);
        CHECK.due("31: process 2 has the next free tick", market.ticksToFinish(2, 500), 13);
        market.restore(0);
        market.run(1);
        CHECK.due("40: process 1 has the next free tick", market.process(1, 7), 1);
    }

    private static void whatIsNotSaved() {
        PromiseMarket market = busyMarket();
        Setups.read(market, "x");
        market.save(0);
        market.appendText(0x66656520);
        CHECK.due("40: the error of the text 'fee '", market.read() + " " + market.errorPosition(), "-1 4");
        market.appendText(0x66656520);
        market.save(1);
        market.appendText(0x37373b3b);
        market.restore(0);
        CHECK.due("40: the latest error stays", market.errorCode() + " " + market.errorPosition(), "1 4");
        CHECK.due("40: the text stays", market.truncateText(7), 7);
        CHECK.due("40: the error code of the text 'fee 77;'", market.read() + " " + market.errorCode(), "-1 2");
        market.restore(1);
        market.restore(0);
        CHECK.due("40: the error stays again", market.errorCode() + " " + market.errorPosition(), "2 4");
        CHECK.due("40: saved states are not in a saved state", market.count(1), 3);
    }

    private static void slots() {
        PromiseMarket market = Setups.market("process 1 0 0;");
        int[] wrong = {-1, 2, Integer.MIN_VALUE, Integer.MAX_VALUE};
        for (int slot : wrong) {
            CHECK.dueArgument("39: save(" + slot + ")", () -> market.save(slot));
            CHECK.dueArgument("40: restore(" + slot + ")", () -> market.restore(slot));
        }
        CHECK.dueState("40: restore(0)", () -> market.restore(0));
        market.save(1);
        CHECK.dueState("40: restore(0) still", () -> market.restore(0));
        market.pay(0, 1);
        market.save(0);
        market.pay(0, 1);
        market.restore(1);
        CHECK.due("40: slot 1", market.process(0, 0), 1);
        market.restore(0);
        CHECK.due("40: slot 0", market.process(0, 0), 2);
        market.pay(0, 7);
        market.save(1);
        market.restore(0);
        market.restore(1);
        CHECK.due("39: slot 1 is replaced", market.process(0, 0), 9);
    }
}
