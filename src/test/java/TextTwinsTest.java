import java.util.ArrayList;
import java.util.List;

/** The state that a text sets up against the same state made by calls, on new objects and on used ones. */
public final class TextTwinsTest {
    private static final int TEXTS = 300;
    private static final int MOST_BYTES = 700;
    private static final String[] GAPS = {" ", " ", " ", " ", "\n", " \n "};
    private static final String[] WRONG = {"x", "7", "every", "ask", "$", "\t", "fee 51;", "penalty;", "\u00fc"};
    private static final Check CHECK = new Check();

    /** By what the texts' gaps and the figures are chosen. */
    private final Script chance;
    private final String name;
    private final StringBuilder text = new StringBuilder();
    private final List<Script.Act> calls = new ArrayList<>();
    private final PromiseMarket guide = new PromiseMarket();
    private int penalty = 5;
    private int fee = 10;
    private final boolean isSmall;
    /** The code and the position of the error; -1 without one. */
    private String error = "0 -1";

    private TextTwinsTest(long seed) {
        chance = new Script(seed, 40);
        name = "text " + seed + ": ";
        isSmall = seed % 3 == 0;
    }

    public static void main(String[] args) {
        for (long seed = 1; seed <= TEXTS; seed++) {
            TextTwinsTest test = new TextTwinsTest(seed);
            test.write();
            test.compare();
            if (seed % 4 == 0) {
                test.compareOnUsedObject();
            }
        }
        CHECK.end();
    }

    private int upTo(int most) {
        return chance.upTo(most);
    }

    private boolean hasError() {
        return !error.startsWith("0");
    }

    // ---- a text and the calls that do the same

    private void write() {
        int statements = isSmall ? 40 : upTo(22);
        for (int i = 0; i < statements && !hasError() && text.length() < MOST_BYTES - 80; i++) {
            statement();
            if (!hasError() && upTo(120) == 0) {
                error = "1 " + text.length();
                text.append(WRONG[upTo(WRONG.length - 1)]);
                error = text.toString().endsWith("fee 51;") ? "2 " + (text.length() - 3) : error;
                error = text.toString().endsWith("penalty;") ? "1 " + (text.length() - 1) : error;
            }
        }
        text.append(upTo(1) == 0 ? "" : "\n ");
    }

    private void statement() {
        int dice = guide.count(1) == 0 ? 0 : isSmall ? 1 + upTo(40) / 4 : upTo(9);
        if (dice >= 9) {
            penalty = number("penalty", upTo(99));
            rules();
        } else if (dice == 8) {
            fee = number("fee", upTo(50));
            rules();
        } else if (dice <= 1) {
            process();
        } else {
            promise();
        }
        if (!hasError()) {
            text.append(upTo(5) == 0 ? " " : "").append(';');
        }
    }

    private int number(String word, int number) {
        text.append(word).append(GAPS[upTo(GAPS.length - 1)]).append(upTo(40) == 0 ? "00000000000" : "").append(number);
        return number;
    }

    private void rules() {
        int itsPenalty = penalty;
        int itsFee = fee;
        call(market -> market.setRules(itsPenalty, itsFee));
    }

    private void process() {
        int number = guide.count(1);
        if (number == 8) {
            error = "3 " + text.length();
        }
        int money = number("process", upTo(9) == 0 ? 1000000 : upTo(500));
        int backlog = number("", upTo(9) == 0 ? 9999 : upTo(30));
        int bid = number("", upTo(99));
        if (hasError()) {
            return;
        }
        call(market -> market.addProcess(money, backlog, bid));
        if (upTo(2) == 0) {
            text.append(' ');
            int every = number("every", upTo(60));
            int amount = number("", upTo(60));
            call(market -> market.setArrival(number, every, amount));
        }
    }

    private void promise() {
        int number = guide.count(2);
        if (number == 20) {
            error = "3 " + text.length();
        }
        int[] terms = someTerms();
        int owner = number("promise", upTo(guide.count(1) - 1));
        number("", terms[0]);
        number("", terms[1]);
        int before = text.length();
        number("", terms[2]);
        if (hasError()) {
            return;
        }
        if (!guide.canAccept(terms[0], terms[1], terms[2])) {
            error = "4 " + (before + gapBehind(before));
            return;
        }
        call(market -> market.promise(owner, terms[0], terms[1], terms[2]));
        if (upTo(2) == 0) {
            text.append(' ');
            int price = number("ask", upTo(9) == 0 ? 99999 : upTo(900));
            call(market -> market.ask(number, price));
        }
    }

    /** Mostly terms that are accepted, in some texts so small ones that there is room for 20 promises. */
    private int[] someTerms() {
        int[] terms = isSmall ? new int[] {60 + 60 * upTo(1), 1 + upTo(1), 60} : chance.someTerms();
        if (upTo(12) > 0) {
            terms[1] = Math.min(terms[1], Math.max(1, guide.greatestBudget(terms[0], terms[2])));
        }
        return terms;
    }

    private int gapBehind(int position) {
        int gap = 0;
        while (text.charAt(position + gap) == ' ' || text.charAt(position + gap) == '\n') {
            gap++;
        }
        return gap;
    }

    private void call(Script.Act call) {
        calls.add(call);
        call.on(guide);
    }

    // ---- twins

    private PromiseMarket byCalls(int ticks) {
        PromiseMarket market = new PromiseMarket();
        for (Script.Act call : calls) {
            call.on(market);
        }
        return passed(market, ticks);
    }

    private static PromiseMarket passed(PromiseMarket market, int ticks) {
        if (ticks > 0) {
            market.run(ticks);
        }
        return market;
    }

    /** A market, new or used, that has read the text. */
    private PromiseMarket byText(PromiseMarket market, int ticks) {
        String want = (hasError() ? "-1" : String.valueOf(guide.count(2))) + " " + error;
        CHECK.due(name + "read() of " + text, Setups.read(market, text.toString()), want);
        CHECK.due(name + "the text buffer is empty", market.truncateText(0), 0);
        CHECK.dueArgument(name + "the text buffer has no byte", () -> market.truncateText(1));
        return passed(market, ticks);
    }

    private void compare() {
        if (hasError()) {
            String want = Script.heads(new PromiseMarket());
            CHECK.due(name + "a new object stays as it is", Script.heads(byText(new PromiseMarket(), 0)), want);
            return;
        }
        for (int ticks : new int[] {0, 1, 50, 200}) {
            String heads = Script.heads(byText(new PromiseMarket(), ticks));
            String promises = Script.promises(byText(new PromiseMarket(), ticks));
            CHECK.due(name + "heads behind " + ticks, heads, Script.heads(byCalls(ticks)));
            CHECK.due(name + "promises behind " + ticks, promises, Script.promises(byCalls(ticks)));
        }
    }

    /** It has read a text before, of which nothing may be left. */
    private PromiseMarket usedObject() {
        PromiseMarket market = chance.make();
        Setups.read(market, "penalty 1;fee 2;process 3 4 5 every 6 7;promise 0 6 2 4 ask 5;");
        return passed(market, 3);
    }

    private void compareOnUsedObject() {
        if (hasError()) {
            String want = chance.seenAfter();
            CHECK.due(name + "a used object stays as it is", chance.seenAfter(market -> byText(market, 0)), want);
            return;
        }
        for (int ticks : new int[] {0, 130}) {
            String heads = Script.heads(byText(usedObject(), ticks));
            CHECK.due(name + "heads of a used object", heads, Script.heads(byCalls(ticks)));
            for (int first = 0; first < 20; first += 10) {
                String promises = Script.promises(byText(usedObject(), ticks), first, first + 10);
                String want = Script.promises(byCalls(ticks), first, first + 10);
                CHECK.due(name + "promises of a used object from " + first, promises, want);
            }
        }
    }
}
