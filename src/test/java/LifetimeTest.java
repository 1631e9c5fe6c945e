/**
 * Each two of a lease, a sale, a split and an end, at each two times from before a job's release to behind its
 * absolute deadline: the holder of a job never changes, and used, sold and wasted ticks are the holder's.
 */
public final class LifetimeTest {
    private static final int PROCESSES = 4;
    private static final int PERIOD = 5;
    private static final int BUDGET = 3;
    private static final int DEADLINE = 4;
    private static final int TICKS = 17;
    private static final int MOST_AT = 11;
    private static final int PENALTY = 7;
    private static final Check CHECK = new Check();

    private enum Event { LEASE_1_JOB, LEASE_2_JOBS, SALE_TO_LESSEE, SALE_TO_THIRD, SPLIT, END }

    /** Who works in a run: nobody (all ticks are wasted), a buyer of ticks, or all that can hold a job. */
    private enum Work { NOBODY, BUYER, HOLDERS }

    private final PromiseMarket market = new PromiseMarket();
    private final Work work;
    private final String name;
    private final int[] ticksOfHolder = new int[PROCESSES];
    /** The promise as the document tells it, without the class. */
    private int owner = 0;
    private int lessee = PromiseMarket.NONE;
    private int jobsLeft = 0;
    private int holder = PromiseMarket.NONE;
    private int budget = BUDGET;
    private int left = 0;
    private int rest = 0;
    private int restLeft = 0;
    private int released = 0;
    private boolean isEnded = false;

    private LifetimeTest(Work work, String name) {
        this.work = work;
        this.name = name;
        for (int i = 0; i < PROCESSES; i++) {
            boolean isBuyer = work == Work.BUYER && i == PROCESSES - 1;
            market.addProcess(1000, isBuyer || work == Work.HOLDERS ? 500 : 0, isBuyer ? 9 : 0);
        }
        market.setRules(PENALTY, 0);
        market.promise(0, PERIOD, BUDGET, DEADLINE);
    }

    public static void main(String[] args) {
        for (Work work : Work.values()) {
            for (Event first : Event.values()) {
                for (Event second : Event.values()) {
                    eachTwoTimes(work, first, second);
                }
            }
        }
        CHECK.end();
    }

    private static void eachTwoTimes(Work work, Event first, Event second) {
        for (int at = 0; at <= MOST_AT; at++) {
            for (int later = at; later <= MOST_AT; later++) {
                String name = work + ", " + first + " at " + at + ", " + second + " at " + later + ": ";
                LifetimeTest test = new LifetimeTest(work, name);
                for (int time = 0; time < TICKS; time++) {
                    if (time == at) {
                        test.happens(first);
                    }
                    if (time == later) {
                        test.happens(second);
                    }
                    test.tick(time);
                }
                test.ends();
            }
        }
    }

    // ---- what is done, and what the document says of it

    private void happens(Event event) {
        if (isEnded) {
            CHECK.dueState(name + "an ended promise", () -> call(event));
            return;
        }
        boolean isLease = event == Event.LEASE_1_JOB || event == Event.LEASE_2_JOBS;
        boolean isSale = event == Event.SALE_TO_LESSEE || event == Event.SALE_TO_THIRD;
        int buyer = event == Event.SALE_TO_THIRD ? 2 : 1;
        if (isLease && (jobsLeft > 0 || owner == 1) || isSale && owner == buyer) {
            CHECK.dueState(name + "leased already, or its own", () -> call(event));
            return;
        }
        if (event == Event.SPLIT && budget == 1) {
            return;
        }
        call(event);
        if (isLease) {
            lessee = 1;
            jobsLeft = event == Event.LEASE_1_JOB ? 1 : 2;
        } else if (isSale) {
            owner = buyer;
        } else if (event == Event.SPLIT) {
            split();
        } else {
            isEnded = true;
            left = 0;
        }
    }

    private void call(Event event) {
        switch (event) {
            case LEASE_1_JOB: market.lease(0, 1, 1, 0); break;
            case LEASE_2_JOBS: market.lease(0, 1, 2, 0); break;
            case SALE_TO_LESSEE: market.ask(0, 0); market.buy(0, 1); break;
            case SALE_TO_THIRD: market.ask(0, 0); market.buy(0, 2); break;
            case SPLIT: market.split(0, budget > 1 ? budget - 1 : 1); break;
            default: market.end(0); break;
        }
    }

    /** The part that is split off is ended at once, so that one promise is left to follow. */
    private void split() {
        budget--;
        rest++;
        restLeft = Math.max(0, left - budget);
        left = Math.min(left, budget);
        int number = market.count(2) - 1;
        CHECK.due(name + "holder of the new promise's job", market.told(number, 8), market.told(0, 8));
        CHECK.due(name + "deadline of the new promise's job", market.told(number, 7), market.told(0, 7));
        CHECK.due(name + "what is left of the new promise's job", market.end(number), restLeft);
    }

    private void tick(int time) {
        if (time % PERIOD == 0 && !isEnded) {
            holder = jobsLeft > 0 ? lessee : owner;
            jobsLeft = Math.max(0, jobsLeft - 1);
            left = budget;
            released++;
        }
        market.run(1);
        if (left > 0) {
            left--;
            ticksOfHolder[holder]++;
        }
        boolean hasJob = !isEnded && time % PERIOD + 1 < DEADLINE;
        String at = name + "behind tick " + time + ": ";
        CHECK.due(at + "holder", market.told(0, 8), hasJob ? holder : PromiseMarket.NONE);
        CHECK.due(at + "left", market.told(0, 6), hasJob ? left : PromiseMarket.NONE);
        CHECK.due(at + "deadline", market.told(0, 7), hasJob ? time - time % PERIOD + DEADLINE : PromiseMarket.NONE);
        CHECK.due(at + "owner", market.told(0, 1), owner);
        CHECK.due(at + "lessee", market.told(0, 10), jobsLeft > 0 && !isEnded ? lessee : PromiseMarket.NONE);
        CHECK.due(at + "jobs left", market.told(0, 11), isEnded ? 0 : jobsLeft);
    }

    private void ends() {
        for (int i = 0; i < PROCESSES; i++) {
            int ticks = ticksOfHolder[i];
            String of = name + "process " + i + ": ";
            CHECK.due(of + "used ticks", market.process(i, 5), work == Work.HOLDERS ? ticks : 0);
            CHECK.due(of + "sum of bids", market.process(i, 8), work == Work.BUYER ? ticks * 9 : 0);
            CHECK.due(of + "penalties", market.process(i, 10), work == Work.NOBODY ? ticks * PENALTY : 0);
        }
        CHECK.due(name + "released jobs", market.told(0, 15), released);
        CHECK.due(name + "splits", market.count(2), 1 + rest);
    }
}
