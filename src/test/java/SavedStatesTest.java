/** Promises 39 and 40. */
public final class SavedStatesTest {
    private static final Check CHECK = new Check();
    private static final String SETUP = "penalty 6; fee 11; process 500 9 9; process 500 0 30 every 7 2;"
            + "process 0 3 0; promise 0 4 2 3 ask 10; promise 1 10 3 8;";

    public static void main(String[] args) {
        restore();
        whatIsNotSaved();
        slots();
        CHECK.end();
    }

    private static PromiseMarket busyMarket() {
        PromiseMarket market = Setups.market(SETUP);
        market.run(9);
        market.buy(0, 1);
        market.lease(0, 0, 9, 2);
        market.ask(1, 40);
        market.run(8);
        market.split(1, 1);
        market.end(2);
        return market;
    }

    private static void changeAll(PromiseMarket market) {
        market.addProcess(1, 1, 1);
        market.setBid(0, 50);
        market.setArrival(1, 2, 9);
        market.setRules(1, 1);
        market.buy(1, 0);
        market.promise(3, 120, 1, 120);
        market.run(30);
        market.end(0);
        market.pay(2, 5);
    }

    private static void restore() {
        PromiseMarket market = busyMarket();
        String before = Setups.everythingOf(market);
        market.save(0);
        CHECK.due("39: save() changes nothing", Setups.everythingOf(market), before);
        changeAll(market);
        market.restore(0);
        CHECK.due("40: all is back", Setups.everythingOf(market), before);
        PromiseMarket twin = busyMarket();
        market.run(50);
        twin.run(50);
        CHECK.due("40: and goes on as before", Setups.everythingOf(market), Setups.everythingOf(twin));
        market.restore(0);
        CHECK.due("40: it stays saved", Setups.everythingOf(market), before);
    }

    private static void whatIsNotSaved() {
        PromiseMarket market = busyMarket();
        Setups.read(market, "x");
        market.save(0);
        market.appendText(0x66656520);
        CHECK.due("40: the error of the text 'fee '", market.read() + " " + market.errorPosition(), "-1 4");
        market.appendText(0x66656520);
        market.save(1);
        market.appendText(0x37373b3b);
        market.restore(0);
        CHECK.due("40: the latest error stays", market.errorCode() + " " + market.errorPosition(), "1 4");
        CHECK.due("40: the text stays", market.truncateText(7), 7);
        CHECK.due("40: the error code of the text 'fee 77;'", market.read() + " " + market.errorCode(), "-1 2");
        market.restore(1);
        market.restore(0);
        CHECK.due("40: the error stays again", market.errorCode() + " " + market.errorPosition(), "2 4");
        CHECK.due("40: saved states are not in a saved state", market.count(1), 3);
    }

    private static void slots() {
        PromiseMarket market = Setups.market("process 1 0 0;");
        int[] wrong = {-1, 2, Integer.MIN_VALUE, Integer.MAX_VALUE};
        for (int slot : wrong) {
            CHECK.dueArgument("39: save(" + slot + ")", () -> market.save(slot));
            CHECK.dueArgument("40: restore(" + slot + ")", () -> market.restore(slot));
        }
        CHECK.dueState("40: restore(0)", () -> market.restore(0));
        market.save(1);
        CHECK.dueState("40: restore(0) still", () -> market.restore(0));
        market.pay(0, 1);
        market.save(0);
        market.pay(0, 1);
        market.restore(1);
        CHECK.due("40: slot 1", market.process(0, 0), 1);
        market.restore(0);
        CHECK.due("40: slot 0", market.process(0, 0), 2);
        market.pay(0, 7);
        market.save(1);
        market.restore(0);
        market.restore(1);
        CHECK.due("39: slot 1 is replaced", market.process(0, 0), 9);
    }
}
