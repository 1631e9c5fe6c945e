import java.util.ArrayList;
import java.util.List;
import java.util.Random;

/**
 * A run of calls by chance (always the same for the same seed) that change a market. It can be made again
 * on any number of new objects, twins, so that what one of them predicts can be looked up in another.
 */
final class Script {
    static final int[] PERIODS = {2, 3, 4, 5, 6, 8, 10, 12, 15, 20, 24, 30, 40, 60, 120};
    private static final int MOST_PROCESSES = 8;
    private static final int MOST_PROMISES = 20;

    interface Act {
        void on(PromiseMarket market);
    }

    private final List<Act> acts = new ArrayList<>();
    private final Random random;
    private final boolean isBusy;
    private int processes = 0;
    private int promises = 0;

    Script(long seed, int calls) {
        random = new Random(seed);
        isBusy = random.nextBoolean();
        PromiseMarket guide = new PromiseMarket();
        int first = 1 + upTo(4);
        for (int i = 0; i < first; i++) {
            add(guide, someProcess());
        }
        while (acts.size() < calls) {
            add(guide, upTo(acts.size() < 12 ? 1 : 4) == 0 ? somePromise() : someAct());
        }
    }

    /** A new object on which all calls of the script have been made. */
    PromiseMarket make() {
        PromiseMarket market = new PromiseMarket();
        for (Act act : acts) {
            tryOn(market, act);
        }
        return market;
    }

    int upTo(int most) {
        return random.nextInt(most + 1);
    }

    int processes() {
        return processes;
    }

    int promises() {
        return promises;
    }

    int anyProcess() {
        return upTo(processes - 1);
    }

    int anyPromise() {
        return upTo(Math.max(0, promises - 1));
    }

    /** Period, budget and deadline of a promise that may be too great. */
    int[] someTerms() {
        int period = PERIODS[upTo(PERIODS.length - 1)];
        int budget = 1 + upTo(Math.max(0, period / (isBusy ? 4 : 9)));
        int deadline = upTo(3) == 0 ? period : budget + upTo(period - budget);
        return new int[] {period, budget, deadline};
    }

    /** What a call that the state does not allow throws is left out, as it changes nothing. */
    static boolean tryOn(PromiseMarket market, Act act) {
        try {
            act.on(market);
            return true;
        } catch (IllegalStateException e) {
            return false;
        }
    }

    private void add(PromiseMarket guide, Act act) {
        tryOn(guide, act);
        acts.add(act);
        processes = guide.count(1);
        promises = guide.count(2);
    }

    private Act someProcess() {
        int money = upTo(4) == 0 ? 999000 + upTo(1000) : upTo(900);
        int backlog = upTo(6) == 0 ? 9990 + upTo(9) : upTo(2) == 0 ? 0 : upTo(20);
        int bid = upTo(2) == 0 ? 0 : upTo(99);
        return market -> market.addProcess(money, backlog, bid);
    }

    private Act somePromise() {
        int owner = anyProcess();
        int[] terms = someTerms();
        return market -> market.promise(owner, terms[0], terms[1], terms[2]);
    }

    /** A call that changes a market, with arguments in their ranges; the state may not allow it. */
    Act someAct() {
        int one = anyProcess();
        int other = anyProcess();
        int promise = anyPromise();
        int small = 1 + upTo(8);
        int great = upTo(99);
        int dice = promises == 0 ? 6 + upTo(5) : upTo(13);
        switch (dice) {
            case 0: return upTo(2) == 0 ? market -> market.end(promise) : market -> market.run(1);
            case 1: return market -> splitIfThere(market, promise, small);
            case 2: return market -> market.ask(promise, great * small - 1);
            case 3: return market -> market.buy(promise, one);
            case 4: return market -> market.buyCheapest(one);
            case 5: return market -> market.lease(promise, one, small, great / 9);
            case 6: return market -> market.setBid(one, great);
            case 7: return market -> market.setArrival(one, small, great % 4);
            case 8: return market -> market.addWork(one, small);
            case 9: return upTo(1) == 0 ? market -> market.pay(other, great + 1) : market -> market.setRules(great, small);
            case 10: return processes < MOST_PROCESSES && upTo(2) == 0 ? someProcess() : market -> market.run(small);
            default: return market -> market.run(small);
        }
    }

    private static void splitIfThere(PromiseMarket market, int promise, int part) {
        int budget = market.told(promise, 3);
        if (budget > 1) {
            market.split(promise, 1 + part % (budget - 1));
        }
    }

    boolean hasRoom() {
        return promises < MOST_PROMISES;
    }

    // ---- all that can be seen of a twin

    /** What is seen of twins on which the acts have been made: at once, and when time has passed. */
    String seenAfter(Act... more) {
        StringBuilder told = new StringBuilder();
        for (int ticks : new int[] {0, 1, 6, 150}) {
            told.append(" | ").append(heads(later(ticks, more))).append(promises(later(ticks, more)));
        }
        return told.toString();
    }

    private PromiseMarket later(int ticks, Act... more) {
        PromiseMarket market = make();
        for (Act act : more) {
            act.on(market);
        }
        if (ticks > 0) {
            market.run(ticks);
        }
        return market;
    }

    static String heads(PromiseMarket market) {
        StringBuilder told = new StringBuilder(Setups.countsOf(market));
        told.append("; ").append(market.bank()).append(' ').append(market.load()).append(' ').append(market.spare());
        told.append("; ").append(Setups.salesOf(market));
        int count = market.count(1);
        for (int i = 0; i < count; i++) {
            told.append("; ").append(Setups.processOf(market, i));
        }
        return told.toString();
    }

    static String promises(PromiseMarket market) {
        return promises(market, 0, MOST_PROMISES);
    }

    /** A part of the promises, for an object that has been called too often to tell of all. */
    static String promises(PromiseMarket market, int first, int behind) {
        StringBuilder told = new StringBuilder();
        int count = Math.min(behind, market.count(2));
        for (int i = first; i < count; i++) {
            told.append("; ").append(Setups.promiseOf(market, i));
        }
        return told.toString();
    }
}
