import java.util.ArrayList;
import java.util.List;

/** States in which calls are refused, always made anew, and views of all that is in them. */
enum Scene {
    /** Three processes, promises that are asked for, leased and ended, a text, a saved state, and an error. */
    PLAIN {
        @Override
        PromiseMarket make() {
            PromiseMarket market = rich("promise 0 120 6 120 ask 3000;promise 1 120 6 60;promise 0 120 6 60;"
                    + "promise 2 120 6 120 ask 20;promise 0 120 6 120 ask 3;promise 2 120 6 120 ask 4000;");
            market.end(2);
            market.lease(1, 2, 9, 0);
            return inUse(market);
        }
    },
    NO_PROMISES {
        @Override
        PromiseMarket make() {
            return inUse(rich(""));
        }
    },
    EIGHT_PROCESSES {
        @Override
        PromiseMarket make() {
            PromiseMarket market = rich("promise 0 120 6 120 ask 3;");
            for (int i = 3; i < 8; i++) {
                market.addProcess(i, i, i);
            }
            return inUse(market);
        }
    },
    /** Promise 3 has ended, and there is room for budgets. */
    TWENTY_PROMISES {
        @Override
        PromiseMarket make() {
            PromiseMarket market = rich("promise 0 120 5 120;".repeat(20));
            market.end(3);
            return inUse(market);
        }
    },
    /** The ticks of the present and the next time are promised. */
    EARLY_JOBS {
        @Override
        PromiseMarket make() {
            PromiseMarket market = inUse(rich(""));
            market.promise(0, 60, 2, 2);
            return market;
        }
    },
    TEXT_OF_697 {
        @Override
        PromiseMarket make() {
            return withText(697);
        }
    },
    TEXT_OF_700 {
        @Override
        PromiseMarket make() {
            return withText(700);
        }
    },
    NO_STATES {
        @Override
        PromiseMarket make() {
            return rich("promise 0 4 2 3 ask 1;");
        }
    };

    /** The views; none of them needs as many calls as an object is good for. */
    static final int VIEWS = 7;
    private final List<String> untouched = new ArrayList<>();

    abstract PromiseMarket make();

    private static PromiseMarket rich(String promises) {
        return Setups.market("penalty 4;fee 9;process 1000 20 5 every 3 1;process 5000 3 7;process 29 0 0;" + promises);
    }

    private static PromiseMarket inUse(PromiseMarket market) {
        market.save(0);
        market.run(7);
        Setups.read(market, "fee 51;");
        Setups.put(market, "fee 7;fee 8;x");
        return market;
    }

    private static PromiseMarket withText(int length) {
        PromiseMarket market = inUse(rich("promise 0 4 2 3 ask 1;"));
        market.truncateText(0);
        Setups.put(market, "fee 11;fee 12" + ";".repeat(length - 13));
        return market;
    }

    /** What is seen of a scene in which nothing has been called. */
    String untouched(int view) {
        while (untouched.size() <= view) {
            untouched.add(seen(make(), untouched.size()));
        }
        return untouched.get(view);
    }

    static String seen(PromiseMarket market, int view) {
        switch (view) {
            case 0: return heads(market);
            case 1: return promises(market);
            case 2: market.run(9); return heads(market);
            case 3: market.run(120); return promises(market);
            case 4: return textOf(market);
            case 5: return restored(market, 0);
            default: return restored(market, 1);
        }
    }

    private static String heads(PromiseMarket market) {
        StringBuilder told = new StringBuilder(Setups.countsOf(market));
        told.append("; ").append(market.bank()).append(' ').append(market.load()).append(' ').append(market.spare());
        told.append("; ").append(market.errorCode()).append(' ').append(market.errorPosition());
        told.append("; ").append(Setups.salesOf(market));
        int processes = market.count(1);
        for (int i = 0; i < processes; i++) {
            told.append("; ").append(Setups.processOf(market, i));
        }
        return told.toString();
    }

    private static String promises(PromiseMarket market) {
        StringBuilder told = new StringBuilder();
        int promises = market.count(2);
        for (int i = 0; i < promises; i++) {
            told.append("; ").append(Setups.promiseOf(market, i));
        }
        return told.toString();
    }

    /** The length of the text, and what it sets up. */
    private static String textOf(PromiseMarket market) {
        int length = lengthOf(market);
        market.truncateText(length);
        return length + " " + market.read() + " " + market.errorCode() + " " + market.errorPosition() + " " + market.count(5);
    }

    private static int lengthOf(PromiseMarket market) {
        try {
            return market.appendText(0x20202020) - 4;
        } catch (IllegalStateException e) {
            return lengthAbove696(market, 700);
        }
    }

    private static int lengthAbove696(PromiseMarket market, int most) {
        try {
            return market.truncateText(most);
        } catch (IllegalArgumentException e) {
            return lengthAbove696(market, most - 1);
        }
    }

    private static String restored(PromiseMarket market, int slot) {
        try {
            market.restore(slot);
            return heads(market);
        } catch (IllegalStateException e) {
            return "nothing is saved";
        }
    }
}
