import java.math.BigInteger;

/** SETUP TEXTS, and promises 34 to 38. */
final class TextEdges extends Edges {
    private static final String PLACE = "SETUP TEXTS";
    private static final String ONE = "process 0 0 0;";
    private static final String EIGHT = ONE.repeat(8);
    private static final String TWENTY = ONE + "promise 0 120 1 120;".repeat(20);
    private static final String FULL = ONE + "promise 0 4 4 4;";
    private static final String GRAMMAR = "statement = \"penalty\" PENALTY | \"fee\" FEE | \"process\" MONEY BACKLOG BID "
            + "[ \"every\" EVERY AMOUNT ] | \"promise\" PROCESS PERIOD BUDGET DEADLINE [ \"ask\" PRICE ]";
    private static final String POSITION = "The error position is the index of its first byte, or the length of the text "
            + "if the text ends too early.";
    private static final String CODE_1 = "is 1 if the token is not allowed there,";
    private static final String CODE_2 = "2 if a number is out of its range (a PERIOD that is no divisor of 120, a DEADLINE "
            + "less than the budget or greater than the period);";
    private static final String CODE_3 = "3 for the word \"process\" of a 9th process and the word \"promise\" of a 21st "
            + "promise;";
    private static final String CODE_4 = "4 for the DEADLINE of a promise that is not accepted.";

    /** Each form of a statement, as the grammar tells it; what stands before the bar must be there already. */
    private static final String[] STATEMENTS = {"|penalty 7 ;", "|fee 7 ;", "|process 9 8 7 ;", "|process 9 8 7 every 6 5 ;",
        ONE + "|promise 0 4 1 4 ;", ONE + "|promise 0 4 1 4 ask 9 ;"};

    /** What stands before each number of the grammar, its least, its most, and what stands behind it. */
    private static final String[][] NUMBERS = {{"penalty ", "0", "99", ";"}, {"fee ", "0", "50", ";"},
        {"process ", "0", "1000000", " 0 0;"}, {"process 0 ", "0", "9999", " 0;"}, {"process 0 0 ", "0", "99", ";"},
        {"process 0 0 0 every ", "0", "60", " 0;"}, {"process 0 0 0 every 0 ", "0", "60", ";"},
        {ONE + ONE + "promise ", "0", "1", " 4 1 4;"}, {ONE + "promise 0 ", "2", "120", " 1 1;"},
        {ONE + "promise 0 120 ", "1", "120", " 120;"}, {ONE + "promise 0 60 7 ", "7", "60", ";"},
        {ONE + "promise 0 4 1 4 ask ", "0", "99999", ";"}};

    TextEdges(Record record) {
        super(record);
    }

    @Override
    void test() {
        bufferOf700Bytes();
        tokensAreMaximalRuns();
        blanks();
        anyNumberOfDigits();
        setups();
        statements();
        rangesOfNumbers();
        processThatIsThere();
        acceptedAtTheTime0();
        rulesToldSeveralTimes();
        firstWrongToken();
        errorPosition();
        tokenNotAllowed();
        byteOfNoToken();
        textEndsTooEarly();
        numberOutOfRange();
        periodsAndDeadlines();
        tooManyProcessesOrPromises();
        notAccepted();
        leastOfSeveralCodes();
        appendText();
        appendTextReturns();
        truncateText();
        readReplaces();
        readEmptiesTheBuffer();
        readReturns();
        errorOfTheLatestRead();
    }

    private static String read(String text) {
        return Setups.read(new PromiseMarket(), text);
    }

    /** The parser must find this fault behind the first text, at the beginning of the second one. */
    private void dueWrong(int code, String before, String wrong) {
        due("read() of '" + before + wrong + "'", read(before + wrong), "-1 " + code + " " + before.length());
    }

    private void dueRight(String text, int promises) {
        due("read() of '" + text + "'", read(text), promises + " 0 -1");
    }

    private void bufferOf700Bytes() {
        quote(PLACE, "A setup is an ASCII text that is collected in a text buffer of at most 700 bytes.");
        PromiseMarket market = new PromiseMarket();
        for (int length = 4; length <= 700; length += 4) {
            due("append till " + length, market.appendText(0x20202020), length);
        }
        dueState("704 bytes", () -> market.appendText(0x20202020));
        int[] lengths = {699, 698, 697};
        for (int length : lengths) {
            market.truncateText(length);
            dueState(length + " and 4 bytes", () -> market.appendText(0x20202020));
        }
        market.truncateText(696);
        due("696 and 4 bytes", market.appendText(0x66656520), 700);
        due("read() of 700 bytes", market.read() + " " + market.errorCode() + " " + market.errorPosition(), "-1 1 700");
        dueRight(" ".repeat(694) + "fee 7;", 0);
        dueWrong(1, " ".repeat(699), "x");
        dueRight("fee 5;".repeat(116) + "   \n", 0);
    }

    private void tokensAreMaximalRuns() {
        quote(PLACE, "Its tokens are words (maximal runs of the letters a to z), numbers (maximal runs of the digits 0 to 9) "
                + "and the symbol ;.");
        dueRight("fee5;penalty6;process1 2 3every4 5;promise0 4 1 4ask6;", 1);
        dueWrong(1, "", "feefee 5;");
        dueWrong(1, "", "fe e 5;");
        dueWrong(1, "", "feepenalty 5;");
        dueWrong(1, "process 0 0 0", "everyy 1 1;");
        dueWrong(1, "fee 5 ", "0;");
        dueWrong(1, "process 0 0 0 every 1", "every 1;");
        dueWrong(1, "fee 5;", ";");
        dueWrong(2, "fee ", "510;");
        String[] words = {"penalty 5;", "fee 5;", "process 0 0 0;", "promise 0 4 1 4;"};
        for (String word : words) {
            dueRight(ONE + word, word.startsWith("promise") ? 1 : 0);
            dueWrong(1, ONE, word.substring(1));
            dueWrong(1, ONE, word.substring(0, 2) + word.substring(3));
            dueWrong(1, ONE, word.replaceFirst(" ", "s "));
            dueWrong(1, ONE, "a" + word);
            dueWrong(1, ONE, "z" + word.substring(1));
            dueWrong(1, ONE, word.replaceFirst(" ", "z "));
            dueWrong(1, ONE, word.replaceFirst(". ", "z "));
        }
        PromiseMarket market = new PromiseMarket();
        due("the word and the number of 'fee49;'", Setups.read(market, "fee49;") + " " + market.count(5), "0 0 -1 49");
    }

    private void blanks() {
        quote(PLACE, "Spaces (byte 32) and line feeds (byte 10) may stand before, between and behind tokens.");
        String[] gaps = {" ", "\n", "  ", "\n\n", " \n ", "          "};
        for (String gap : gaps) {
            String text = String.join(gap, "", "process", "1", "2", "3", "every", "4", "5", ";", "promise", "0", "4", "1", "4",
                    "ask", "6", ";", "fee", "7", ";", "");
            dueRight(text, 1);
            dueRight(gap, 0);
            PromiseMarket market = Setups.market(text);
            due("the process", Setups.processOf(market, 0), "1 2 3 4 5 0 0 0 0 0 0 1");
            due("the price and FEE", market.told(0, 9) + " " + market.count(5), "6 7");
        }
    }

    private void anyNumberOfDigits() {
        quote(PLACE, "Numbers may have any number of digits.");
        int[] zeros = {1, 2, 9, 10, 18, 19, 20, 64, 500};
        for (String[] number : NUMBERS) {
            for (int some : zeros) {
                String before = number[0] + "0".repeat(some);
                due(some + " zeros before " + number[1] + " in '" + number[0] + "'",
                        read(before + number[1] + number[3]).endsWith(" 0 -1"), true);
                due(some + " zeros before " + number[2] + " in '" + number[0] + "'",
                        read(before + number[2] + number[3]).endsWith(" 0 -1"), true);
            }
        }
        PromiseMarket market = new PromiseMarket();
        due("695 digits", Setups.read(market, "fee " + "0".repeat(693) + "49;"), "0 0 -1");
        due("their value", market.count(5), 49);
        String[] great = {"2147483648", "4294967296", "4294967298", "9223372036854775808", "18446744073709551616",
            "18446744073709551618", "1" + "0".repeat(600), "9".repeat(600), "10000000000", "429496729607"};
        for (String[] number : NUMBERS) {
            for (String digits : great) {
                dueWrong(2, number[0], digits + number[3]);
            }
        }
        // numbers that would be in range again, if they were counted round by a type's size
        for (int bits = 8; bits <= 128; bits++) {
            dueWrong(2, "fee ", BigInteger.ONE.shiftLeft(bits).add(BigInteger.valueOf(7)) + ";");
        }
    }

    private void setups() {
        quote(PLACE, "setup = { statement \";\" }");
        dueRight("", 0);
        dueRight("fee 1;", 0);
        dueRight("fee 1;fee 2;penalty 3;", 0);
        dueWrong(1, "", ";");
        dueWrong(1, "fee 1", "");
        dueWrong(1, "fee 1 ", "fee 2;");
        dueWrong(1, "fee 1;fee 2", "");
        dueRight(EIGHT + "promise 7 120 6 120;".repeat(20), 20);
    }

    private void statements() {
        quote(PLACE, GRAMMAR);
        for (String statement : STATEMENTS) {
            dueRight(statement.replace("|", ""), statement.contains("promise") ? 1 : 0);
            dueRight(statement.replace("|", "") + "fee 3 ;", statement.contains("promise") ? 1 : 0);
        }
        PromiseMarket market = Setups.market("fee 41; penalty 42; process 43 44 45 every 46 47; process 48 49 50;"
                + "promise 1 60 3 31 ask 55; promise 0 40 2 32;");
        due("PENALTY and FEE", market.count(4) + " " + market.count(5), "42 41");
        due("MONEY, BACKLOG, BID, EVERY and AMOUNT", Setups.processOf(market, 0), "43 44 45 46 47 0 0 0 0 0 0 1");
        due("without EVERY and AMOUNT", Setups.processOf(market, 1), "48 49 50 0 0 0 0 0 0 0 0 1");
        due("PROCESS, PERIOD, BUDGET, DEADLINE and PRICE", Setups.promiseOf(market, 0),
                "0 1 60 3 31 0 -1 -1 -1 55 -1 0 0 0 0 0 0");
        due("without PRICE", Setups.promiseOf(market, 1), "0 0 40 2 32 0 -1 -1 -1 -1 -1 0 0 0 0 0 0");
    }

    private void rangesOfNumbers() {
        quote(PLACE, "PRICE is 0 to 99999, BUDGET 1 to 120; the other numbers have the ranges told above.");
        for (String[] number : NUMBERS) {
            int least = Integer.parseInt(number[1]);
            int most = Integer.parseInt(number[2]);
            due("the least in '" + number[0] + "'", read(number[0] + least + number[3]).endsWith(" 0 -1"), true);
            due("the most in '" + number[0] + "'", read(number[0] + most + number[3]).endsWith(" 0 -1"), true);
            dueWrong(2, number[0], (most + 1) + number[3]);
            if (least > 0) {
                dueWrong(2, number[0], (least - 1) + number[3]);
                dueWrong(2, number[0], "0" + number[3]);
            }
            dueWrong(1, number[0], "-1" + number[3]);
        }
    }

    private void processThatIsThere() {
        quote(PLACE, "PROCESS is the number of a process that is there already,");
        dueWrong(2, "promise ", "0 4 1 4;");
        dueWrong(2, "promise ", "0 4 1 4;" + ONE);
        for (int processes = 1; processes <= 8; processes++) {
            String there = ONE.repeat(processes);
            dueRight(there + "promise " + (processes - 1) + " 4 1 4;", 1);
            dueWrong(2, there + "promise ", processes + " 4 1 4;" + (processes < 8 ? ONE : ""));
        }
        PromiseMarket market = Setups.market(EIGHT);
        due("processes of before the text are not there", Setups.read(market, "promise 0 4 1 4;"), "-1 2 8");
    }

    private void acceptedAtTheTime0() {
        quote(PLACE, "Promises are accepted at the time 0, each together with those before it.");
        dueRight(ONE + "promise 0 120 5 5;promise 0 120 5 10;", 2);
        dueWrong(4, ONE + "promise 0 120 5 5;promise 0 120 6 ", "10;");
        dueRight(ONE + "promise 0 2 1 1;promise 0 120 60 120;", 2);
        dueWrong(4, ONE + "promise 0 2 1 1;promise 0 120 61 ", "120;");
        dueWrong(4, ONE + "promise 0 120 60 120;promise 0 120 59 120;promise 0 120 2 ", "120;");
        PromiseMarket full = Setups.market(FULL);
        full.run(7);
        due("promises of before the text do not count", Setups.read(full, FULL), "1 0 -1");
        due("the first release", full.told(0, 5), 0);
        PromiseMarket later = Setups.market(ONE + "promise 0 120 1 1;");
        later.run(1);
        due("nor does the time of before", Setups.read(later, ONE + "promise 0 120 1 1;promise 0 120 1 1;"), "-1 4 48");
    }

    private void rulesToldSeveralTimes() {
        quote(PLACE, "\"penalty\" and \"fee\" can be told several times, the last one counts.");
        PromiseMarket market = Setups.market("fee 1;penalty 2;fee 3;" + ONE + "penalty 99;penalty 4;fee 50;fee 0;");
        due("PENALTY and FEE", market.count(4) + " " + market.count(5), "4 0");
        due("never told", Setups.market(ONE).count(4) + " " + Setups.market(ONE).count(5), "5 10");
    }

    private void firstWrongToken() {
        quote(PLACE, "Errors in a text: the parser reads the tokens from the first one on and stops at the first token that "
                + "is wrong.");
        dueWrong(2, "fee ", "51; x");
        dueWrong(2, "fee ", "51 x");
        dueWrong(2, "fee ", "51");
        dueWrong(1, "fee ", "x; fee 51;");
        dueWrong(1, "", "x 51");
        dueWrong(1, "fee 1;", "$ fee 51;");
        dueWrong(3, EIGHT, "process 1000001 x");
        dueWrong(3, EIGHT, "process");
        dueWrong(3, TWENTY, "promise 9 7 0 0 ask");
        dueWrong(4, FULL + "promise 0 4 1 ", "4 ask 100000;");
        dueWrong(4, FULL + "promise 0 4 1 ", "4 $");
        dueWrong(4, FULL + "promise 0 4 1 ", "4");
        dueWrong(2, ONE + "promise ", "1 7 121 0;");
        dueWrong(2, ONE + "promise 0 ", "7 121 0;");
        dueWrong(2, ONE + "promise 0 4 ", "121 0;");
        dueWrong(1, ONE, "ask 100000;");
    }

    private void errorPosition() {
        quote(PLACE, POSITION);
        for (int blanks = 0; blanks <= 3; blanks++) {
            String gap = "\n".repeat(blanks);
            dueWrong(1, gap, "x;");
            dueWrong(1, gap + "fee" + gap, ";");
            dueWrong(2, gap + "fee " + gap, "00051;");
            dueWrong(2, gap + "fee " + gap, "51" + gap + ";");
            dueWrong(1, "fee 1;" + gap, "feee 2;");
            dueWrong(1, gap + "fee" + gap, "");
            dueWrong(1, gap + "fee" + gap + "1" + gap, "");
        }
        dueWrong(1, "fee 1;".repeat(116), "fe 2");
        dueWrong(1, "fee 1;".repeat(115) + "fee       ", "");
    }

    private void tokenNotAllowed() {
        quote(PLACE, CODE_1);
        String[] others = {"x", "fee", "penalty", "process", "promise", "every", "ask", ";", "1", "999999999999", "$", "\u00c8"};
        for (String statement : STATEMENTS) {
            String there = statement.substring(0, statement.indexOf('|'));
            String[] tokens = statement.substring(there.length() + 1).split(" ");
            StringBuilder before = new StringBuilder(there);
            for (String token : tokens) {
                for (String other : others) {
                    if (!isAllowedFor(token, other, before.toString())) {
                        dueWrong(1, before.toString(), other + " ;");
                    }
                }
                before.append(token).append(' ');
            }
        }
        dueWrong(1, "process 1 2 3 ", "ask 4;");
        dueWrong(1, "process 1 2 3 every 1 1 ", "every 1 1;");
        dueWrong(1, ONE + "promise 0 4 1 4 ", "every 1 1;");
        dueWrong(1, ONE + "promise 0 4 1 4 ask 1 ", "ask 1;");
        dueWrong(1, "fee 1 ", "ask 1;");
        dueWrong(1, "", "FEE 1;");
    }

    /** Whether one token may stand where another one of a right statement does. */
    private static boolean isAllowedFor(String token, String other, String before) {
        boolean isNumber = Character.isDigit(token.charAt(0));
        if (isNumber || Character.isDigit(other.charAt(0))) {
            return isNumber && Character.isDigit(other.charAt(0));
        }
        if (before.isEmpty() || before.equals(ONE)) {
            return "fee penalty process promise".contains(other) && other.length() > 1;
        }
        return other.equals(token) || token.equals("every") && other.equals(";") || token.equals("ask") && other.equals(";")
                || token.equals(";") && before.endsWith("process 9 8 7 ") && other.equals("every")
                || token.equals(";") && before.endsWith("promise 0 4 1 4 ") && other.equals("ask");
    }

    private void byteOfNoToken() {
        quote(PLACE, "if a byte belongs to no token,");
        for (int i = 0; i < 256; i++) {
            char one = (char) i;
            boolean isBlank = i == ' ' || i == '\n';
            boolean isToken = i >= 'a' && i <= 'z' || i >= '0' && i <= '9' || i == ';';
            if (isBlank) {
                dueRight(one + "fee" + one + "5" + one + ";" + one, 0);
            } else if (!isToken) {
                dueWrong(1, "", one + "fee 5;");
                dueWrong(1, "fee", one + "5;");
                dueWrong(1, "fee ", one + "5;");
                dueWrong(1, "fee 5", one + ";");
                dueWrong(1, "fee 5;", one + "");
                dueWrong(1, "fee 5; ", one + " fee 5;");
            }
        }
    }

    private void textEndsTooEarly() {
        quote(PLACE, "or if the text ends too early;");
        for (String statement : STATEMENTS) {
            String there = statement.substring(0, statement.indexOf('|'));
            String[] tokens = statement.substring(there.length() + 1).split(" ");
            StringBuilder before = new StringBuilder(there);
            for (String token : tokens) {
                if (!token.equals(";")) {
                    before.append(token);
                    dueWrong(1, before.toString(), "");
                    dueWrong(1, before + " \n ", "");
                    before.append(' ');
                }
            }
        }
        PromiseMarket market = new PromiseMarket();
        Setups.put(market, "fee 12;");
        market.truncateText(6);
        due("cut before the symbol", market.read() + " " + market.errorCode() + " " + market.errorPosition(), "-1 1 6");
        Setups.put(market, "fee 12;");
        market.truncateText(5);
        due("cut within the number", market.read() + " " + market.errorCode() + " " + market.errorPosition(), "-1 1 5");
        Setups.put(market, "fees 1;");
        market.truncateText(3);
        due("cut within the word", market.read() + " " + market.errorCode() + " " + market.errorPosition(), "-1 1 3");
        Setups.put(market, "fee 12;");
        market.truncateText(3);
        due("cut before the number", market.read() + " " + market.errorCode() + " " + market.errorPosition(), "-1 1 3");
    }

    private void numberOutOfRange() {
        quote(PLACE, CODE_2);
        for (String[] number : NUMBERS) {
            BigInteger most = new BigInteger(number[2]);
            for (int more = 1; more <= 3; more++) {
                dueWrong(2, number[0], most.add(BigInteger.valueOf(more)) + number[3]);
            }
            dueWrong(2, number[0], most.multiply(BigInteger.TEN).add(BigInteger.TEN) + number[3]);
        }
    }

    private void periodsAndDeadlines() {
        quote(PLACE, CODE_2);
        for (int period = 0; period <= 242; period++) {
            if (period >= 2 && period <= 120 && 120 % period == 0) {
                dueRight(ONE + "promise 0 " + period + " 1 1;", 1);
                dueRight(ONE + "promise 0 " + period + " 1 " + period + ";", 1);
                dueRight(ONE + "promise 0 " + period + " " + period + " " + period + ";", 1);
                dueWrong(2, ONE + "promise 0 " + period + " 1 ", (period + 1) + ";");
                dueWrong(2, ONE + "promise 0 " + period + " 1 ", "0;");
                dueWrong(2, ONE + "promise 0 " + period + " " + period + " ", (period - 1) + ";");
            } else {
                dueWrong(2, ONE + "promise 0 ", period + " 1 1;");
            }
        }
        // a BUDGET above the PERIOD is in its own range, so each DEADLINE is wrong
        dueWrong(2, ONE + "promise 0 4 5 ", "4;");
        dueWrong(2, ONE + "promise 0 4 5 ", "5;");
        dueWrong(2, ONE + "promise 0 60 120 ", "120;");
    }

    private void tooManyProcessesOrPromises() {
        quote(PLACE, CODE_3);
        dueRight(EIGHT, 0);
        dueWrong(3, EIGHT, "process 0 0 0;");
        dueWrong(3, EIGHT + "fee 1;\n ", "process");
        dueWrong(1, EIGHT, "processes 0 0 0;");
        dueRight(EIGHT + "fee 1;", 0);
        dueRight(TWENTY, 20);
        dueWrong(3, TWENTY, "promise 0 120 1 120;");
        dueWrong(3, TWENTY + " ", "promise");
        dueRight(TWENTY + ONE.repeat(7), 20);
        dueWrong(3, TWENTY + ONE.repeat(7), "process 0 0 0;");
        PromiseMarket market = Setups.market(EIGHT + "promise 0 120 1 120;".repeat(20));
        due("those of before the text do not count", Setups.read(market, ONE + "promise 0 120 1 120;"), "1 0 -1");
    }

    private void notAccepted() {
        quote(PLACE, CODE_4);
        dueRight(FULL, 1);
        dueWrong(4, FULL + "promise 0 120 1 ", "120;");
        dueWrong(4, FULL + "promise 0 2 1 \n", "1 ;");
        dueWrong(4, FULL + "promise 0 120 1 ", "00120 ask 3;");
        dueWrong(4, ONE + "promise 0 8 1 1;promise 0 15 1 ", "1;");
        dueRight(ONE + "promise 0 8 1 1;promise 0 15 1 2;", 2);
    }

    private void leastOfSeveralCodes() {
        quote(PLACE, "The error code, of several at one token the least,");
        dueWrong(2, FULL + "promise 0 4 1 ", "5;");
        dueWrong(2, FULL + "promise 0 4 3 ", "2;");
        dueWrong(2, FULL + "promise 0 120 120 ", "121;");
        dueWrong(1, FULL + "promise 0 4 1 ", "x;");
        dueWrong(1, EIGHT + "fee ", "process 0 0 0;");
        dueWrong(1, EIGHT + "fee 1 ", "process 0 0 0;");
        dueWrong(1, TWENTY + "fee ", "promise 0 120 1 120;");
        dueWrong(1, TWENTY + "fee 1 ", "promise 0 120 1 120;");
        dueWrong(1, "", "999999999999;");
        dueWrong(1, "fee 1 ", "999999999999;");
        dueWrong(1, "process 1 2 3 ", "999999999999;");
    }

    // ---- promises 34 to 38

    private void appendText() {
        quote("Promise 34", "Appends four bytes to the text buffer, the highest byte of the parameter first.");
        PromiseMarket market = new PromiseMarket();
        market.appendText(0x66656534);
        market.appendText(0x393b0a20);
        due("'fee49;' and blanks", market.read() + " " + market.count(5), "0 49");
        market.appendText(0x66656520);
        market.truncateText(3);
        market.appendText(0x34383b20);
        due("'48; ' behind 'fee'", market.read() + " " + market.count(5), "0 48");
        quote("Promise 34", "fourBytes: the bytes");
        int[] fours = {-1, 0, 1, Integer.MIN_VALUE, Integer.MAX_VALUE, 0x80818283, 0xff202020};
        for (int four : fours) {
            PromiseMarket any = new PromiseMarket();
            due("any four of them: " + four, any.appendText(four), 4);
            due("read()", any.read() + " " + any.errorCode() + " " + any.errorPosition(), "-1 1 0");
        }
        market.appendText(0x20202080);
        due("the lowest byte 128 is the last", market.read() + " " + market.errorPosition(), "-1 3");
        market.appendText(0x208020ff);
        due("of two wrong bytes the higher one is the first", market.read() + " " + market.errorPosition(), "-1 1");
    }

    private void appendTextReturns() {
        quote("Promise 34", "Returns the length of the text in bytes.");
        PromiseMarket market = new PromiseMarket();
        due("4", market.appendText(0), 4);
        due("8", market.appendText(0), 8);
        market.truncateText(5);
        due("9", market.appendText(0), 9);
        market.truncateText(0);
        due("4 again", market.appendText(0), 4);
        market.read();
        due("4 behind a read()", market.appendText(0), 4);
        for (int length = 8; length <= 700; length += 4) {
            market.appendText(0);
        }
        dueState("704", () -> market.appendText(0));
        due("700 stays", market.truncateText(700), 700);
    }

    private void truncateText() {
        quote("Promise 35", "Cuts the text to its first bytes.");
        PromiseMarket market = new PromiseMarket();
        Setups.put(market, "fee 1; fee 2;");
        market.truncateText(6);
        due("'fee 1;' of 'fee 1; fee 2;'", market.read() + " " + market.count(5), "0 1");
        quote("Promise 35", "length: the new length, 0 to the present length");
        Setups.put(market, "fee 3;xx");
        dueArgument("1 more", () -> market.truncateText(9));
        dueArgument("-1", () -> market.truncateText(-1));
        due("all of it", market.truncateText(8), 8);
        due("6", market.truncateText(6), 6);
        dueArgument("what was cut is gone", () -> market.truncateText(7));
        due("'fee 3;'", market.read() + " " + market.count(5), "0 3");
        dueArgument("1 of nothing", () -> market.truncateText(1));
        quote("Promise 35", "Returns the new length.");
        due("0 of nothing", market.truncateText(0), 0);
        Setups.put(market, "fee 3;xx");
        due("8 of 8", market.truncateText(8), 8);
        due("1 of 8", market.truncateText(1), 1);
        due("0 of 1", market.truncateText(0), 0);
        due("the empty text", market.read(), 0);
    }

    private static PromiseMarket used() {
        PromiseMarket market = Setups.market("fee 3;penalty 4;process 200 9 9 every 2 1;process 200 0 9;"
                + "promise 0 4 2 4 ask 10;promise 0 4 1 4;");
        market.run(6);
        market.buy(0, 1);
        market.lease(1, 1, 9, 1);
        market.run(1);
        market.save(1);
        market.run(4);
        return market;
    }

    private void readReplaces() {
        String[] texts = {"", "fee 7;", ONE, "process 1 9 3;process 1 9 3;process 1 9 3;promise 0 4 2 4;promise 2 12 3 9;"};
        for (String text : texts) {
            quote("Promise 36", "Reads the text as a setup, which replaces everything except saved states:");
            PromiseMarket market = used();
            Setups.read(market, text);
            PromiseMarket fresh = Setups.market(text);
            due("everything", Setups.everythingOf(market), Setups.everythingOf(fresh));
            market.run(7);
            fresh.run(7);
            due("seven ticks later", Setups.everythingOf(market), Setups.everythingOf(fresh));
            PromiseMarket saved = used();
            String before = Setups.countsOf(saved) + Setups.promiseOf(saved, 1);
            saved.save(0);
            Setups.read(saved, text);
            saved.restore(0);
            due("what was saved in slot 0", Setups.countsOf(saved) + Setups.promiseOf(saved, 1), before);
            saved.restore(1);
            due("the time that was saved in slot 1", saved.count(0), 7);
            PromiseMarket unsaved = new PromiseMarket();
            Setups.read(unsaved, text);
            dueState("nothing is saved by it", () -> unsaved.restore(0));
            quote("Promise 36", "the time is 0, and what it does not set is as at first.");
            PromiseMarket first = used();
            Setups.read(first, text);
            due("the counts", Setups.countsOf(first).replaceFirst("(\\d+ ){4}\\d+ \\d+", ""), " 0 0 0 0 0 0 0");
            due("the time", first.count(0), 0);
            due("PENALTY", first.count(4), 5);
            due("FEE", first.count(5), text.startsWith("fee") ? 7 : 10);
            due("the bank", first.bank(), 0L);
            due("sales", first.partners() + " " + first.meanPrice(), "0 -1.0");
        }
    }

    private void readEmptiesTheBuffer() {
        quote("Promise 36", "The text buffer is empty afterwards, also if there is an error.");
        String[] texts = {"", ONE, "x", "fee 51;", " ".repeat(700), "x".repeat(700)};
        for (String text : texts) {
            PromiseMarket market = new PromiseMarket();
            Setups.read(market, text);
            dueArgument("truncateText(1) behind '" + text.strip() + "'", () -> market.truncateText(1));
            due("truncateText(0)", market.truncateText(0), 0);
            due("the next read()", market.read() + " " + market.errorCode(), "0 0");
            due("the next length", market.appendText(0), 4);
        }
    }

    private void readReturns() {
        quote("Promise 36", "Returns the number of promises;");
        for (int promises = 0; promises <= 20; promises++) {
            dueRight(ONE + "promise 0 120 1 120;".repeat(promises), promises);
        }
        quote("Promise 36", "NONE if the text has an error (then everything else stays).");
        String[] texts = {"x", ";", "fee 1;penalty 2;process 3 3 3;promise 0 4 1 4 ask 100000;", "fee 1", FULL + "promise 0 4 1 4;"};
        for (String text : texts) {
            PromiseMarket market = used();
            Setups.put(market, text);
            due("read() of '" + text + "'", market.read(), -1);
            due("everything but the error", Setups.everythingOf(market).replaceFirst("error \\d \\d+", "error 0 -1"),
                    Setups.everythingOf(used()));
            PromiseMarket twin = used();
            twin.run(7);
            PromiseMarket later = used();
            Setups.read(later, text);
            later.run(7);
            due("seven ticks later", Setups.everythingOf(later).replaceFirst("error \\d \\d+", "error 0 -1"),
                    Setups.everythingOf(twin));
            later.restore(1);
            due("the saved time", later.count(0), 7);
            dueState("the slot without a state", () -> later.restore(0));
        }
    }

    private void errorOfTheLatestRead() {
        String[] texts = {"fee 51;", "", "fee 1; x", FULL + "promise 0 4 1 4;", "x", EIGHT + "process", ONE};
        int[] codes = {2, 0, 1, 4, 1, 3, 0};
        int[] positions = {4, -1, 7, 44, 0, 112, -1};
        PromiseMarket market = new PromiseMarket();
        quote("Promise 37", "0 if its text had no error, or if there was no such call.");
        due("no such call", market.errorCode(), 0);
        quote("Promise 38", "NONE if its text had no error, or if there was no such call.");
        due("no such call", market.errorPosition(), -1);
        for (int i = 0; i < texts.length; i++) {
            Setups.read(market, texts[i]);
            quote("Promise 37", "Returns the error code of the latest read();");
            due("of '" + texts[i] + "'", market.errorCode(), codes[i]);
            quote("Promise 38", "Returns the error position of the latest read();");
            due("of '" + texts[i] + "'", market.errorPosition(), positions[i]);
            market.addProcess(0, 0, 0);
            market.run(1);
            market.appendText(0x78787878);
            due("a text that is not read has none", market.errorCode() + " " + market.errorPosition(),
                    codes[i] + " " + positions[i]);
            market.truncateText(0);
        }
    }
}
