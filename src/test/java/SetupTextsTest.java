/** Promises 34 to 38. */
public final class SetupTextsTest {
    private static final Check CHECK = new Check();
    private static final String FOUR = "process 0 0 0;";

    public static void main(String[] args) {
        appendText();
        truncateText();
        read();
        whatReadReplaces();
        whatAnErrorLeaves();
        cutTexts();
        notAllowed();
        outOfRange();
        tooMany();
        notAccepted();
        CHECK.end();
    }

    private static void appendText() {
        PromiseMarket market = new PromiseMarket();
        CHECK.due("34: 'fee '", market.appendText(0x66656520), 4);
        CHECK.due("34: '49; '", market.appendText(0x34393b20), 8);
        CHECK.due("36: read()", market.read(), 0);
        CHECK.due("34: the highest byte was first", market.count(5), 49);
        for (int length = 4; length <= 700; length += 4) {
            CHECK.due("34: appendText at " + length, market.appendText(0x20202020), length);
        }
        CHECK.dueState("34: 704 bytes", () -> market.appendText(0x20202020));
        CHECK.due("35: truncateText(697)", market.truncateText(697), 697);
        CHECK.dueState("34: 701 bytes", () -> market.appendText(0x20202020));
        CHECK.due("35: truncateText(697) again", market.truncateText(697), 697);
        CHECK.dueArgument("35: truncateText(698)", () -> market.truncateText(698));
        market.truncateText(696);
        CHECK.due("34: 700 bytes", market.appendText(0x6665653b), 700);
        CHECK.due("36: read()", market.read(), -1);
        CHECK.due("38: the last byte", market.errorPosition(), 699);
        CHECK.due("34: the buffer was emptied", market.appendText(-1), 4);
        CHECK.due("36: read() of bytes 255", market.read(), -1);
        CHECK.due("38: the first byte", market.errorPosition(), 0);
    }

    private static void truncateText() {
        PromiseMarket market = new PromiseMarket();
        Setups.put(market, "fee 12;x");
        CHECK.dueArgument("35: truncateText(9)", () -> market.truncateText(9));
        CHECK.dueArgument("35: truncateText(-1)", () -> market.truncateText(-1));
        CHECK.dueArgument("35: the least number", () -> market.truncateText(Integer.MIN_VALUE));
        CHECK.due("35: truncateText(8)", market.truncateText(8), 8);
        CHECK.due("35: truncateText(7)", market.truncateText(7), 7);
        CHECK.dueArgument("35: truncateText(8) then", () -> market.truncateText(8));
        CHECK.due("36: read()", market.read(), 0);
        CHECK.due("28: FEE", market.count(5), 12);
        CHECK.dueArgument("35: truncateText(1) of nothing", () -> market.truncateText(1));
        Setups.put(market, "fee 12;x");
        CHECK.due("35: truncateText(0)", market.truncateText(0), 0);
        CHECK.due("36: read() of nothing", market.read(), 0);
    }

    private static void read() {
        PromiseMarket market = new PromiseMarket();
        String text = "\n  penalty 98;penalty99;fee 3 ;\nfee 0000000000000000000000000007;process 1000000 9999 99every 60 60;"
                + "process 5 6 7;\nprocess 0 0 0 every 0 0 ; promise 1 120 40 120ask 99999;promise 2 60 10 20 ask 0;"
                + "promise 0 2 1 2 ;  \n\n";
        CHECK.due("36: a long text", Setups.read(market, text), "3 0 -1");
        CHECK.due("36: counts", Setups.countsOf(market), "0 3 3 3 99 7 0 0 0 0 0 0 0");
        CHECK.due("36: process 0", Setups.processOf(market, 0), "1000000 9999 99 60 60 0 0 0 0 0 0 1");
        CHECK.due("36: process 1", Setups.processOf(market, 1), "5 6 7 0 0 0 0 0 0 0 0 1");
        CHECK.due("36: process 2", Setups.processOf(market, 2), "0 0 0 0 0 0 0 0 0 0 0 1");
        CHECK.due("36: promise 0", Setups.promiseOf(market, 0), "0 1 120 40 120 0 -1 -1 -1 99999 -1 0 0 0 0 0 0");
        CHECK.due("36: promise 1", Setups.promiseOf(market, 1), "0 2 60 10 20 0 -1 -1 -1 0 -1 0 0 0 0 0 0");
        CHECK.due("36: promise 2", Setups.promiseOf(market, 2), "0 0 2 1 2 0 -1 -1 -1 -1 -1 0 0 0 0 0 0");
        CHECK.due("36: the least rules", Setups.read(market, "penalty 0;fee 0;"), "0 0 -1");
        CHECK.due("36: counts", Setups.countsOf(market), "0 0 0 0 0 0 0 0 0 0 0 0 0");
        CHECK.due("36: an empty text", Setups.read(market, ""), "0 0 -1");
        CHECK.due("36: as at first", Setups.countsOf(market), "0 0 0 0 5 10 0 0 0 0 0 0 0");
        CHECK.due("36: a text of blanks", Setups.read(market, " \n \n\n"), "0 0 -1");
        StringBuilder eight = new StringBuilder();
        for (int i = 0; i < 8; i++) {
            eight.append("process 0 0 0;");
        }
        for (int i = 0; i < 20; i++) {
            eight.append("promise 7 120 6 120;");
        }
        CHECK.due("36: 8 processes, 20 promises", Setups.read(market, eight.toString()), "20 0 -1");
    }

    private static void whatReadReplaces() {
        PromiseMarket market = Setups.market("process 200 9 9; process 200 9 9; promise 0 4 2 4 ask 10; promise 0 4 1 4;");
        market.setRules(7, 8);
        market.run(6);
        market.buy(0, 1);
        market.lease(1, 1, 9, 1);
        market.end(1);
        market.save(1);
        String saved = Setups.everythingOf(market);
        CHECK.due("36: a new setup", Setups.read(market, "process 1 2 3;process 1 2 3;promise 0 4 2 4;"), "1 0 -1");
        String fresh = Setups.everythingOf(
                Setups.market("process 1 2 3;process 1 2 3;promise 0 4 2 4;"));
        CHECK.due("36: nothing of before is left", Setups.everythingOf(market), fresh);
        market.run(3);
        PromiseMarket other = Setups.market("process 1 2 3;process 1 2 3;promise 0 4 2 4;");
        other.run(3);
        CHECK.due("36: nor in the ticks", Setups.everythingOf(market), Setups.everythingOf(other));
        market.restore(1);
        CHECK.due("36: saved states stay", Setups.everythingOf(market), saved);
    }

    private static void whatAnErrorLeaves() {
        PromiseMarket market = Setups.market("process 200 9 9; process 200 9 9; promise 0 4 2 4 ask 10;");
        market.run(5);
        market.buy(0, 1);
        String before = Setups.everythingOf(market);
        CHECK.due("36: an error", Setups.read(market, "fee 3; process 1 1 1; promise 0 4 1 4; fee 51;"), "-1 2 43");
        CHECK.due("37: errorCode() again", market.errorCode(), 2);
        CHECK.dueArgument("36: the buffer is empty", () -> market.truncateText(1));
        market.run(1);
        CHECK.due("38: errorPosition() stays", market.errorPosition(), 43);
        CHECK.due("36: an error at once", Setups.read(market, ";"), "-1 1 0");
        CHECK.due("28: the time", market.count(0), 6);
        PromiseMarket twin = Setups.market("process 200 9 9; process 200 9 9; promise 0 4 2 4 ask 10;");
        twin.run(5);
        twin.buy(0, 1);
        CHECK.due("36: the twin", Setups.everythingOf(twin), before);
        twin.run(1);
        String same = Setups.everythingOf(twin).replace("error 0 -1", "error 1 0");
        CHECK.due("36: everything else stays", Setups.everythingOf(market), same);
        CHECK.due("37: no error any more", Setups.read(market, ""), "0 0 -1");
        Setups.read(market, "penalty 1; fee 1; process 9 9 9 every 2 3; promise 0 4 1 4 ask 6; x");
        CHECK.due("36: nothing is left of the text with an error",
                Setups.read(market, "process 7 7 7; promise 0 4 1 4;"), "1 0 -1");
        CHECK.due("36: as with a new object", Setups.everythingOf(market),
                Setups.everythingOf(Setups.market("process 7 7 7; promise 0 4 1 4;")));
    }

    /** What stands behind the end of the text does not belong to it. */
    private static void cutTexts() {
        PromiseMarket market = new PromiseMarket();
        String[] texts = {"fee 12;", "fee 12;", "fees 1;", "fee 1;;", "fee    ", "feeee 5;"};
        int[] lengths = {6, 5, 3, 5, 3, 3};
        for (int i = 0; i < texts.length; i++) {
            Setups.put(market, texts[i]);
            market.truncateText(lengths[i]);
            CHECK.due("36: '" + texts[i] + "' cut to " + lengths[i], market.read(), -1);
            CHECK.due("38: of it", market.errorPosition(), lengths[i]);
        }
        String longest = " ".repeat(695) + "fee 1";
        CHECK.due("36: 700 bytes and no semicolon", Setups.read(market, longest), "-1 1 700");
        CHECK.due("36: 700 bytes and no number", Setups.read(market, "  " + longest.substring(0, 698)), "-1 1 700");
        CHECK.due("36: 700 blanks", Setups.read(new PromiseMarket(), " ".repeat(700)), "0 0 -1");
        String digits = "fee " + "0".repeat(694) + "7;";
        PromiseMarket other = new PromiseMarket();
        CHECK.due("36: 700 bytes", Setups.read(other, digits), "0 0 -1");
        CHECK.due("36: a number of 695 digits", other.count(5), 7);
    }

    private static void error(String text, int code, int position) {
        PromiseMarket market = new PromiseMarket();
        CHECK.due("36: '" + text + "'", Setups.read(market, text), "-1 " + code + " " + position);
    }

    private static void notAllowed() {
        error(";", 1, 0);
        error("5;", 1, 0);
        error("every 1 1;", 1, 0);
        error("ask 1;", 1, 0);
        error("Fee 5;", 1, 0);
        error("fees 5;", 1, 0);
        error("fe 5;", 1, 0);
        error("xee 5;", 1, 0);
        error("fex 5;", 1, 0);
        error("feez 5;", 1, 0);
        error("qenalty 5;", 1, 0);
        error("penaltz 5;", 1, 0);
        error("xrocess 1 2 3;", 1, 0);
        error("procesz 1 2 3;", 1, 0);
        error("process 1 2 3 xvery 1 1;", 1, 14);
        error(FOUR + "xromise 0 4 1 4;", 1, 14);
        error(FOUR + "promisa 0 4 1 4;", 1, 14);
        error(FOUR + "promise 0 4 1 4 xsk 5;", 1, 14 + 16);
        error(FOUR + "promise 0 4 1 4 asz 5;", 1, 14 + 16);
        error("feepenalty 5;", 1, 0);
        error("fee", 1, 3);
        error("fee \n ", 1, 6);
        error("fee 5", 1, 5);
        error("fee 5 ", 1, 6);
        error("fee ;", 1, 4);
        error("fee fee;", 1, 4);
        error("fee -5;", 1, 4);
        error("fee 5 5;", 1, 6);
        error("fee 5;;", 1, 6);
        error("fee 5; fee 5", 1, 12);
        error("fee 5\t;", 1, 5);
        error("fee\r5;", 1, 3);
        error("fee 5x;", 1, 5);
        error("fee 5\u0000;", 1, 5);
        error("fee 5;\u00e9", 1, 6);
        error("fee 5;\u00bb", 1, 6);
        error("fee 5;`", 1, 6);
        error("fee 5;{", 1, 6);
        error("fee 5:", 1, 5);
        error("fee 5/;", 1, 5);
        error("\u0001", 1, 0);
        error("process 1 2;", 1, 11);
        error("process 1 2 3 4;", 1, 14);
        error("process 1 2 3 ask 4;", 1, 14);
        error("process 1 2 3 every;", 1, 19);
        error("process 1 2 3 every 1;", 1, 21);
        error("process 1 2 3 every 1 1 every 1 1;", 1, 24);
        error("process 1 2 3 every 1 1", 1, 23);
        error(FOUR + "promise 0 4 1;", 1, 14 + 13);
        error(FOUR + "promise 0 4 1 4 5;", 1, 14 + 16);
        error(FOUR + "promise 0 4 1 4 every 1 1;", 1, 14 + 16);
        error(FOUR + "promise 0 4 1 4 ask;", 1, 14 + 19);
        error(FOUR + "promise 0 4 1 4 ask 1 ask 1;", 1, 14 + 22);
        error(FOUR + "promise 0 4 1 4 ask 1", 1, 14 + 21);
        error(FOUR + "promise 0 4 1 4", 1, 14 + 15);
    }

    private static void outOfRange() {
        error("penalty 100;", 2, 8);
        error("penalty 99999999999999999999999999999999999999999999999999", 2, 8);
        error("penalty 4294967296;", 2, 8);
        error("fee 51;", 2, 4);
        error("fee 51", 2, 4);
        error("fee 51 $", 2, 4);
        error("fee 00051", 2, 4);
        error("process 1000001 0 0;", 2, 8);
        error("process 10000000 0 0;", 2, 8);
        error("process 18446744073709551616 0 0;", 2, 8);
        error("process 0 10000 0;", 2, 10);
        error("process 0 0 100;", 2, 12);
        error("process 0 0 0 every 61 0;", 2, 20);
        error("process 0 0 0 every 0 61;", 2, 22);
        error("promise 0 4 1 4;", 2, 8);
        error(FOUR + "promise 1 4 1 4;", 2, 14 + 8);
        error(FOUR + "promise 0 1 1 1;", 2, 14 + 10);
        error(FOUR + "promise 0 0 1 1;", 2, 14 + 10);
        error(FOUR + "promise 0 7 1 1;", 2, 14 + 10);
        error(FOUR + "promise 0 240 1 1;", 2, 14 + 10);
        error(FOUR + "promise 0 4 0 1;", 2, 14 + 12);
        error(FOUR + "promise 0 120 121 1;", 2, 14 + 14);
        error(FOUR + "promise 0 4 2 1;", 2, 14 + 14);
        error(FOUR + "promise 0 4 2 5;", 2, 14 + 14);
        error(FOUR + "promise 0 4 5 5;", 2, 14 + 14);
        error(FOUR + "promise 0 4 120 4;", 2, 14 + 16);
        error(FOUR + "promise 0 4 1 4 ask 100000;", 2, 14 + 20);
    }

    private static void tooMany() {
        StringBuilder eight = new StringBuilder();
        for (int i = 0; i < 8; i++) {
            eight.append(FOUR);
        }
        error(eight + " process 0 0 0;", 3, 8 * 14 + 1);
        error(eight + "process", 3, 8 * 14);
        error(eight + "processes", 1, 8 * 14);
        StringBuilder twenty = new StringBuilder(FOUR);
        for (int i = 0; i < 20; i++) {
            twenty.append("promise 0 120 1 120;");
        }
        error(twenty + "promise 0 120 1 120;", 3, 14 + 20 * 20);
        error(twenty + "promise $", 3, 14 + 20 * 20);
    }

    private static void notAccepted() {
        error(FOUR + "promise 0 4 4 4;promise 0 120 1 120;", 4, 14 + 16 + 16);
        error(FOUR + "promise 0 4 4 4;promise 0 120 1 120", 4, 14 + 16 + 16);
        error(FOUR + "promise 0 4 4 4;promise 0 120 1 121;", 2, 14 + 16 + 16);
        error(FOUR + "promise 0 8 1 1;promise 0 15 1 1;", 4, 14 + 16 + 15);
        error(FOUR + "promise 0 8 1 1;promise 0 15 1 1 ask 100000 $", 4, 14 + 16 + 15);
        PromiseMarket market = new PromiseMarket();
        CHECK.due("36: accepted", Setups.read(market, FOUR + "promise 0 8 1 1;promise 0 15 1 2;"), "2 0 -1");
    }
}
