/**
 * A processor scheduler with promises: a process owns promises of processor time in each period,
 * which are kept by earliest deadlines; promises are sold and leased, and single ticks that a
 * holder does not need are sold to the highest bid.
 */
public final class PromiseMarket {
    public static final int NONE = -1;

    private static final int MOST_PROCESSES = 8;
    private static final int MOST_PROMISES = 20;
    private static final int MOST_MONEY = 1000000;
    private static final int MOST_BACKLOG = 9999;
    private static final int MOST_BID = 99;
    private static final int MOST_EVERY = 60;
    private static final int MOST_AMOUNT = 60;
    private static final int MOST_WORK = 1000;
    private static final int MOST_PAY = 10000;
    private static final int LEAST_PERIOD = 2;
    /** Each period divides it. */
    private static final int CYCLE = 120;
    private static final int MOST_WAIT = 120;
    private static final int TIMELINE_TICKS = 360;
    private static final int DEMAND_TICKS = 240;
    private static final int MOST_PRICE = 99999;
    private static final int MOST_JOBS_LEASED = 50;
    private static final int MOST_JOB_PRICE = 999;
    private static final int MOST_PENALTY = 99;
    private static final int MOST_FEE = 50;
    private static final int FIRST_PENALTY = 5;
    private static final int FIRST_FEE = 10;
    private static final int MOST_TICKS = 500;
    private static final int MOST_BID_TICKS = 120;
    private static final int MOST_TEXT = 700;
    private static final int SLOTS = 2;

    private final State now = new State();
    private final State forecast = new State();
    private final State[] saved = {new State(), new State()};
    private final boolean[] isSaved = new boolean[SLOTS];
    private final Timeline trial = new Timeline();
    private final Timeline later = new Timeline();
    private final SetupText text = new SetupText();

    public PromiseMarket() {
    }

    // ---- processes

    public int addProcess(int money, int backlog, int bid)
            throws IllegalArgumentException, IllegalStateException {
        checkRange(money, 0, MOST_MONEY);
        checkRange(backlog, 0, MOST_BACKLOG);
        checkRange(bid, 0, MOST_BID);
        checkState(now.processCount < MOST_PROCESSES);
        now.enter(money, backlog, bid);
        return now.processCount - 1;
    }

    public int setBid(int process, int bid) throws IndexOutOfBoundsException, IllegalArgumentException {
        Process known = now.knownProcess(process);
        checkRange(bid, 0, MOST_BID);
        int previous = known.bid;
        known.bid = bid;
        return previous;
    }

    public void setArrival(int process, int every, int amount)
            throws IndexOutOfBoundsException, IllegalArgumentException {
        Process known = now.knownProcess(process);
        checkRange(every, 0, MOST_EVERY);
        checkRange(amount, 0, MOST_AMOUNT);
        known.every = every;
        known.amount = amount;
    }

    public int addWork(int process, int ticks) throws IndexOutOfBoundsException, IllegalArgumentException {
        Process known = now.knownProcess(process);
        checkRange(ticks, 1, MOST_WORK);
        known.takeWork(ticks);
        return known.backlog;
    }

    public int pay(int process, int money) throws IndexOutOfBoundsException, IllegalArgumentException {
        Process known = now.knownProcess(process);
        checkRange(money, 1, MOST_PAY);
        known.earn(money);
        return known.money;
    }

    public int process(int process, int what) throws IndexOutOfBoundsException, IllegalArgumentException {
        Process known = now.knownProcess(process);
        checkRange(what, 0, 11);
        return what == 11 ? now.timeline.countOwnedBy(process) : known.figure(what);
    }

    // ---- promises

    public int promise(int owner, int period, int budget, int deadline)
            throws IndexOutOfBoundsException, IllegalArgumentException, IllegalStateException {
        now.knownProcess(owner);
        checkPromise(period, budget, deadline);
        checkState(now.timeline.promiseCount < MOST_PROMISES);
        checkState(trial.accepts(now.timeline, period, budget, deadline));
        now.timeline.add(owner, period, budget, deadline);
        return now.timeline.promiseCount - 1;
    }

    public boolean canAccept(int period, int budget, int deadline) throws IllegalArgumentException {
        checkPromise(period, budget, deadline);
        return trial.accepts(now.timeline, period, budget, deadline);
    }

    public int greatestBudget(int period, int deadline) throws IllegalArgumentException {
        checkArgument(isPeriod(period));
        checkRange(deadline, 1, period);
        int budget = deadline;
        while (budget > 0 && !trial.accepts(now.timeline, period, budget, deadline)) {
            budget--;
        }
        return budget;
    }

    public int waitFor(int period, int budget, int deadline) throws IllegalArgumentException {
        checkPromise(period, budget, deadline);
        later.copyFrom(now.timeline);
        for (int ticks = 0; ticks <= MOST_WAIT; ticks++) {
            if (trial.accepts(later, period, budget, deadline)) {
                return ticks;
            }
            later.passTick();
        }
        return NONE;
    }

    public int end(int promise) throws IndexOutOfBoundsException, IllegalStateException {
        Promise known = now.timeline.knownPromise(promise);
        checkState(!known.ended);
        return known.finish();
    }

    public int split(int promise, int part)
            throws IndexOutOfBoundsException, IllegalArgumentException, IllegalStateException {
        Promise known = now.timeline.knownPromise(promise);
        checkRange(part, 1, known.budget - 1);
        checkState(!known.ended && now.timeline.promiseCount < MOST_PROMISES);
        now.timeline.divide(known, part);
        return now.timeline.promiseCount - 1;
    }

    public int told(int promise, int what) throws IndexOutOfBoundsException, IllegalArgumentException {
        Promise known = now.timeline.knownPromise(promise);
        checkRange(what, 0, 16);
        return known.figure(what, now.timeline.time);
    }

    // ---- demand

    public int demand(int ticks) throws IllegalArgumentException {
        checkRange(ticks, 1, DEMAND_TICKS);
        return now.timeline.demandIn(ticks);
    }

    public int tightest() {
        return now.timeline.tightestTicks();
    }

    public boolean isBounded(int period, int budget, int deadline) throws IllegalArgumentException {
        checkPromise(period, budget, deadline);
        trial.copyFrom(now.timeline);
        trial.add(NONE, period, budget, deadline);
        int ticks = trial.tightestTicks();
        return trial.demandIn(ticks) <= ticks;
    }

    public double load() {
        return now.timeline.sumOfShares();
    }

    public int spare() {
        trial.copyFrom(now.timeline);
        return trial.passFreeTicks();
    }

    // ---- market

    public int ask(int promise, int price)
            throws IndexOutOfBoundsException, IllegalArgumentException, IllegalStateException {
        Promise known = now.timeline.knownPromise(promise);
        checkArgument(price == NONE || isWithin(price, 0, MOST_PRICE));
        checkState(!known.ended);
        int previous = known.price;
        known.price = price;
        return previous;
    }

    public int buy(int promise, int buyer) throws IndexOutOfBoundsException, IllegalStateException {
        Promise known = now.timeline.knownPromise(promise);
        now.knownProcess(buyer);
        checkState(now.canBuy(known, buyer));
        int previous = known.owner;
        now.sell(known, buyer);
        return previous;
    }

    public int buyCheapest(int buyer) throws IndexOutOfBoundsException {
        now.knownProcess(buyer);
        int cheapest = now.cheapestFor(buyer);
        if (cheapest != NONE) {
            now.sell(now.timeline.knownPromise(cheapest), buyer);
        }
        return cheapest;
    }

    public int lease(int promise, int lessee, int jobs, int price)
            throws IndexOutOfBoundsException, IllegalArgumentException, IllegalStateException {
        Promise known = now.timeline.knownPromise(promise);
        Process payer = now.knownProcess(lessee);
        checkRange(jobs, 1, MOST_JOBS_LEASED);
        checkRange(price, 0, MOST_JOB_PRICE);
        int sum = jobs * price;
        checkState(!known.ended && known.jobsLeased == 0 && known.owner != lessee && payer.money >= sum);
        payer.money -= sum;
        now.knownProcess(known.owner).earn(sum);
        known.lessee = lessee;
        known.jobsLeased = jobs;
        return sum;
    }

    public int sales(int seller, int buyer) throws IndexOutOfBoundsException {
        now.knownProcess(seller);
        now.knownProcess(buyer);
        return now.sold.countBetween(seller, buyer);
    }

    public int partners() {
        return now.sold.countPairs();
    }

    public float meanPrice() {
        return now.sold.mean();
    }

    public void setRules(int penalty, int fee) throws IllegalArgumentException {
        checkRange(penalty, 0, MOST_PENALTY);
        checkRange(fee, 0, MOST_FEE);
        now.penalty = penalty;
        now.fee = fee;
    }

    public int count(int what) throws IllegalArgumentException {
        checkRange(what, 0, 12);
        return now.figure(what);
    }

    public long bank() {
        return now.bankMoney;
    }

    // ---- time

    public int run(int ticks) throws IllegalArgumentException {
        checkRange(ticks, 1, MOST_TICKS);
        int before = now.wastedTicks;
        now.pass(ticks);
        return now.wastedTicks - before;
    }

    public int ticksToFinish(int process, int most) throws IndexOutOfBoundsException, IllegalArgumentException {
        now.knownProcess(process);
        checkRange(most, 1, MOST_TICKS);
        forecast.copyFrom(now);
        Process watched = forecast.knownProcess(process);
        for (int ticks = 0; ticks <= most; ticks++) {
            if (watched.backlog == 0) {
                return ticks;
            }
            forecast.pass(1);
        }
        return NONE;
    }

    public int moneyAfter(int process, int ticks) throws IndexOutOfBoundsException, IllegalArgumentException {
        now.knownProcess(process);
        checkRange(ticks, 1, MOST_TICKS);
        forecast.copyFrom(now);
        forecast.pass(ticks);
        return forecast.knownProcess(process).money;
    }

    public int bestBid(int process, int ticks) throws IndexOutOfBoundsException, IllegalArgumentException {
        now.knownProcess(process);
        checkRange(ticks, 1, MOST_BID_TICKS);
        int best = NONE;
        int leastBacklog = 0;
        int mostMoney = 0;
        for (int bid = 0; bid <= MOST_BID; bid++) {
            forecast.copyFrom(now);
            Process bidder = forecast.knownProcess(process);
            bidder.bid = bid;
            forecast.pass(ticks);
            boolean isLess = best == NONE || bidder.backlog < leastBacklog;
            if (isLess || bidder.backlog == leastBacklog && bidder.money > mostMoney) {
                best = bid;
                leastBacklog = bidder.backlog;
                mostMoney = bidder.money;
            }
        }
        return best;
    }

    // ---- setup texts

    public int appendText(int fourBytes) throws IllegalStateException {
        checkState(text.length <= MOST_TEXT - 4);
        text.append(fourBytes);
        return text.length;
    }

    public int truncateText(int length) throws IllegalArgumentException {
        checkRange(length, 0, text.length);
        text.length = length;
        return length;
    }

    public int read() {
        boolean isSetup = text.parse();
        text.length = 0;
        if (!isSetup) {
            return NONE;
        }
        now.copyFrom(text.target);
        return now.timeline.promiseCount;
    }

    public int errorCode() {
        return text.error;
    }

    public int errorPosition() {
        return text.errorStart;
    }

    // ---- saved states

    public void save(int slot) throws IllegalArgumentException {
        checkArgument(slot >= 0 && slot < SLOTS);
        saved[slot].copyFrom(now);
        isSaved[slot] = true;
    }

    public void restore(int slot) throws IllegalArgumentException, IllegalStateException {
        checkArgument(slot >= 0 && slot < SLOTS);
        checkState(isSaved[slot]);
        now.copyFrom(saved[slot]);
    }

    // ---- checks

    private static void checkArgument(boolean isFine) {
        if (!isFine) {
            throw new IllegalArgumentException("an argument is out of range");
        }
    }

    private static void checkState(boolean isFine) {
        if (!isFine) {
            throw new IllegalStateException("the state does not allow this call");
        }
    }

    private static void checkRange(int value, int least, int most) {
        checkArgument(isWithin(value, least, most));
    }

    private static void checkPromise(int period, int budget, int deadline) {
        checkArgument(isPeriod(period));
        checkRange(budget, 1, CYCLE);
        checkRange(deadline, budget, period);
    }

    private static boolean isWithin(int value, int least, int most) {
        return least <= value && value <= most;
    }

    private static boolean isPeriod(int value) {
        return isWithin(value, LEAST_PERIOD, CYCLE) && CYCLE % value == 0;
    }

    /** A process: what it has, what it wants, and what has happened to it. */
    private static final class Process {
        int money;
        int backlog;
        int bid;
        int every;
        int amount;
        int usedTicks;
        int boughtTicks;
        int freeTicks;
        int soldFor;
        int boughtFor;
        int penalties;

        void begin(int firstMoney, int firstBacklog, int firstBid) {
            money = firstMoney;
            backlog = firstBacklog;
            bid = firstBid;
            every = 0;
            amount = 0;
            usedTicks = 0;
            boughtTicks = 0;
            freeTicks = 0;
            soldFor = 0;
            boughtFor = 0;
            penalties = 0;
        }

        void copyFrom(Process other) {
            money = other.money;
            backlog = other.backlog;
            bid = other.bid;
            every = other.every;
            amount = other.amount;
            usedTicks = other.usedTicks;
            boughtTicks = other.boughtTicks;
            freeTicks = other.freeTicks;
            soldFor = other.soldFor;
            boughtFor = other.boughtFor;
            penalties = other.penalties;
        }

        void earn(int sum) {
            money = Math.min(MOST_MONEY, money + sum);
        }

        void takeWork(int ticks) {
            backlog = Math.min(MOST_BACKLOG, backlog + ticks);
        }

        void arrive(int time) {
            if (every != 0 && time % every == 0) {
                takeWork(amount);
            }
        }

        boolean canBuyTick() {
            return backlog > 0 && bid > 0 && bid <= money;
        }

        /** The number that the face's process() tells of it. */
        int figure(int what) {
            switch (what) {
                case 0: return money;
                case 1: return backlog;
                case 2: return bid;
                case 3: return every;
                case 4: return amount;
                case 5: return usedTicks;
                case 6: return boughtTicks;
                case 7: return freeTicks;
                case 8: return soldFor;
                case 9: return boughtFor;
                default: return penalties;
            }
        }
    }

    /** A promise with its latest job, which is there while the time is less than its due time. */
    private static final class Promise {
        boolean ended;
        int owner;
        /** 0 in an unused promise alone, so it is looked at before it divides. */
        int period;
        int budget;
        int deadline;
        int nextRelease;
        /** What is left of the job's budget; 0 without a job. */
        int left;
        int due;
        int holder;
        int price;
        int lessee;
        int jobsLeased;
        int usedTicks;
        int soldTicks;
        int wastedTicks;
        int releasedJobs;
        int missedJobs;

        void begin(int itsOwner, int itsPeriod, int itsBudget, int itsDeadline, int time) {
            ended = false;
            owner = itsOwner;
            period = itsPeriod;
            budget = itsBudget;
            deadline = itsDeadline;
            nextRelease = time;
            left = 0;
            due = NONE;
            holder = NONE;
            price = NONE;
            lessee = NONE;
            jobsLeased = 0;
            usedTicks = 0;
            soldTicks = 0;
            wastedTicks = 0;
            releasedJobs = 0;
            missedJobs = 0;
        }

        void copyFrom(Promise other) {
            ended = other.ended;
            owner = other.owner;
            period = other.period;
            budget = other.budget;
            deadline = other.deadline;
            nextRelease = other.nextRelease;
            left = other.left;
            due = other.due;
            holder = other.holder;
            price = other.price;
            lessee = other.lessee;
            jobsLeased = other.jobsLeased;
            usedTicks = other.usedTicks;
            soldTicks = other.soldTicks;
            wastedTicks = other.wastedTicks;
            releasedJobs = other.releasedJobs;
            missedJobs = other.missedJobs;
        }

        void releaseJob() {
            left = budget;
            due = nextRelease + deadline;
            nextRelease += period;
            releasedJobs++;
            holder = owner;
            if (jobsLeased > 0) {
                holder = lessee;
                jobsLeased--;
                lessee = jobsLeased > 0 ? lessee : NONE;
            }
        }

        /** Drops the job if its due time is reached with work left, and tells whether that was so. */
        boolean missJob(int time) {
            boolean isMissed = left > 0 && due <= time;
            if (isMissed) {
                left = 0;
                missedJobs++;
            }
            return isMissed;
        }

        /** Ends it and answers what was left of its job. */
        int finish() {
            int lost = left;
            ended = true;
            nextRelease = NONE;
            left = 0;
            due = NONE;
            price = NONE;
            lessee = NONE;
            jobsLeased = 0;
            return lost;
        }

        /** Keeps a part of its budget; what it does not keep goes to a promise just begun. */
        void giveRest(int part, Promise rest) {
            rest.nextRelease = nextRelease;
            rest.left = Math.max(0, left - part);
            rest.due = due;
            rest.holder = holder;
            budget = part;
            left = Math.min(left, part);
        }

        int ticksInCycle() {
            return period < 1 ? 0 : budget * (CYCLE / period);
        }

        double share() {
            return period < 1 ? 0.0 : (double) budget / period;
        }

        int demandIn(int ticks) {
            return ticks < deadline || period < 1 ? 0 : budget * ((ticks - deadline) / period + 1);
        }

        /** The number that the face's told() tells of it. */
        int figure(int what, int time) {
            boolean hasJob = time < due;
            switch (what) {
                case 0: return ended ? 1 : 0;
                case 1: return owner;
                case 2: return period;
                case 3: return budget;
                case 4: return deadline;
                case 5: return nextRelease;
                case 6: return hasJob ? left : NONE;
                case 7: return hasJob ? due : NONE;
                case 8: return hasJob ? holder : NONE;
                case 9: return price;
                case 10: return lessee;
                case 11: return jobsLeased;
                case 12: return usedTicks;
                case 13: return soldTicks;
                case 14: return wastedTicks;
                case 15: return releasedJobs;
                default: return missedJobs;
            }
        }
    }

    /** The promises at a time: what is released, chosen and missed, whoever runs. */
    private static final class Timeline {
        /** One more than a market may have, for the promise that is on trial. */
        static final int ROOM = MOST_PROMISES + 1;

        final Promise[] promises = new Promise[ROOM];
        int promiseCount;
        int time;

        Timeline() {
            for (int i = 0; i < ROOM; i++) {
                promises[i] = new Promise();
            }
        }

        void clear() {
            promiseCount = 0;
            time = 0;
        }

        void copyFrom(Timeline other) {
            promiseCount = other.promiseCount;
            time = other.time;
            for (int i = 0; i < promiseCount; i++) {
                promises[i].copyFrom(other.promises[i]);
            }
        }

        Promise knownPromise(int number) {
            if (number < 0 || number >= promiseCount) {
                throw new IndexOutOfBoundsException("there is no such promise");
            }
            return promises[number];
        }

        /** Adds a promise, if there is room, whose first job is released now. */
        void add(int owner, int period, int budget, int deadline) {
            if (promiseCount < ROOM) {
                promises[promiseCount].begin(owner, period, budget, deadline, time);
                promiseCount++;
            }
        }

        /** Splits a promise, if there is room for the new one. */
        void divide(Promise whole, int part) {
            if (promiseCount < ROOM) {
                Promise rest = promises[promiseCount];
                rest.begin(whole.owner, whole.period, whole.budget - part, whole.deadline, time);
                whole.giveRest(part, rest);
                promiseCount++;
            }
        }

        int countOwnedBy(int process) {
            int owned = 0;
            for (int i = 0; i < promiseCount; i++) {
                if (!promises[i].ended && promises[i].owner == process) {
                    owned++;
                }
            }
            return owned;
        }

        int countNotEnded() {
            int alive = 0;
            for (int i = 0; i < promiseCount; i++) {
                if (!promises[i].ended) {
                    alive++;
                }
            }
            return alive;
        }

        // ---- the steps of a tick

        void releaseJobs() {
            for (int i = 0; i < promiseCount; i++) {
                if (!promises[i].ended && promises[i].nextRelease == time) {
                    promises[i].releaseJob();
                }
            }
        }

        /** The promise whose job gets the tick, which uses 1 of its budget; null if there is none. */
        Promise chooseJob() {
            Promise chosen = null;
            for (int i = 0; i < promiseCount; i++) {
                Promise one = promises[i];
                if (one.left > 0 && (chosen == null || one.due < chosen.due)) {
                    chosen = one;
                }
            }
            if (chosen != null) {
                chosen.left--;
            }
            return chosen;
        }

        /** Lets the time grow, and answers how many jobs are missed by that. */
        int growTime() {
            time++;
            int missed = 0;
            for (int i = 0; i < promiseCount; i++) {
                if (promises[i].missJob(time)) {
                    missed++;
                }
            }
            return missed;
        }

        void passTick() {
            releaseJobs();
            chooseJob();
            growTime();
        }

        // ---- acceptance

        /** Becomes the present timeline with one promise more, and tells whether that is accepted. */
        boolean accepts(Timeline present, int period, int budget, int deadline) {
            copyFrom(present);
            add(NONE, period, budget, deadline);
            boolean isKept = ticksInCycle() <= CYCLE;
            for (int tick = 0; isKept && tick < TIMELINE_TICKS; tick++) {
                releaseJobs();
                chooseJob();
                isKept = growTime() == 0;
            }
            return isKept;
        }

        private int ticksInCycle() {
            int sum = 0;
            for (int i = 0; i < promiseCount; i++) {
                if (!promises[i].ended) {
                    sum += promises[i].ticksInCycle();
                }
            }
            return sum;
        }

        /** Goes on, and answers in how many ticks no job could be chosen. */
        int passFreeTicks() {
            int free = 0;
            for (int tick = 0; tick < TIMELINE_TICKS; tick++) {
                releaseJobs();
                if (chooseJob() == null) {
                    free++;
                }
                growTime();
            }
            return free;
        }

        // ---- demand

        int demandIn(int ticks) {
            int sum = 0;
            for (int i = 0; i < promiseCount; i++) {
                if (!promises[i].ended) {
                    sum += promises[i].demandIn(ticks);
                }
            }
            return sum;
        }

        int tightestTicks() {
            int tightest = 1;
            int leastSlack = 1 - demandIn(1);
            for (int ticks = 2; ticks <= DEMAND_TICKS; ticks++) {
                int slack = ticks - demandIn(ticks);
                if (slack < leastSlack) {
                    tightest = ticks;
                    leastSlack = slack;
                }
            }
            return tightest;
        }

        double sumOfShares() {
            double sum = 0.0;
            for (int i = 0; i < promiseCount; i++) {
                if (!promises[i].ended) {
                    sum += promises[i].share();
                }
            }
            return sum;
        }
    }

    /** The sales of promises, by seller and buyer. */
    private static final class Sales {
        static final int PAIRS = MOST_PROCESSES * MOST_PROCESSES;

        final int[] byPair = new int[PAIRS];
        int total;
        int priceSum;

        void clear() {
            for (int i = 0; i < PAIRS; i++) {
                byPair[i] = 0;
            }
            total = 0;
            priceSum = 0;
        }

        void copyFrom(Sales other) {
            System.arraycopy(other.byPair, 0, byPair, 0, PAIRS);
            total = other.total;
            priceSum = other.priceSum;
        }

        void add(int seller, int buyer, int price) {
            int pair = pairOf(seller, buyer);
            if (pair >= 0 && pair < PAIRS) {
                byPair[pair]++;
                total++;
                priceSum += price;
            }
        }

        int countBetween(int seller, int buyer) {
            int pair = pairOf(seller, buyer);
            return pair >= 0 && pair < PAIRS ? byPair[pair] : 0;
        }

        int countPairs() {
            int pairs = 0;
            for (int i = 0; i < PAIRS; i++) {
                if (byPair[i] > 0) {
                    pairs++;
                }
            }
            return pairs;
        }

        float mean() {
            return total == 0 ? -1.0f : (float) priceSum / (float) total;
        }

        private static int pairOf(int seller, int buyer) {
            return seller * MOST_PROCESSES + buyer;
        }
    }

    /** Everything that is saved, predicted from, and replaced by a setup. */
    private static final class State {
        final Timeline timeline = new Timeline();
        final Process[] processes = new Process[MOST_PROCESSES];
        final Sales sold = new Sales();
        int processCount;
        int penalty = FIRST_PENALTY;
        int fee = FIRST_FEE;
        long bankMoney;
        /** The process that ran in the latest free tick that was not idle. */
        int latestFree = NONE;
        int usedTicks;
        int soldTicks;
        int wastedTicks;
        int freeTicks;
        int idleTicks;
        int missedJobs;

        State() {
            for (int i = 0; i < MOST_PROCESSES; i++) {
                processes[i] = new Process();
            }
        }

        void clear() {
            timeline.clear();
            sold.clear();
            processCount = 0;
            penalty = FIRST_PENALTY;
            fee = FIRST_FEE;
            bankMoney = 0;
            latestFree = NONE;
            usedTicks = 0;
            soldTicks = 0;
            wastedTicks = 0;
            freeTicks = 0;
            idleTicks = 0;
            missedJobs = 0;
        }

        void copyFrom(State other) {
            timeline.copyFrom(other.timeline);
            sold.copyFrom(other.sold);
            processCount = other.processCount;
            for (int i = 0; i < processCount; i++) {
                processes[i].copyFrom(other.processes[i]);
            }
            penalty = other.penalty;
            fee = other.fee;
            bankMoney = other.bankMoney;
            latestFree = other.latestFree;
            usedTicks = other.usedTicks;
            soldTicks = other.soldTicks;
            wastedTicks = other.wastedTicks;
            freeTicks = other.freeTicks;
            idleTicks = other.idleTicks;
            missedJobs = other.missedJobs;
        }

        Process knownProcess(int number) {
            if (number < 0 || number >= processCount) {
                throw new IndexOutOfBoundsException("there is no such process");
            }
            return processes[number];
        }

        /** Adds a process, if there is room. */
        void enter(int money, int backlog, int bid) {
            if (processCount < MOST_PROCESSES) {
                processes[processCount].begin(money, backlog, bid);
                processCount++;
            }
        }

        /** The number that the face's count() tells. */
        int figure(int what) {
            switch (what) {
                case 0: return timeline.time;
                case 1: return processCount;
                case 2: return timeline.promiseCount;
                case 3: return timeline.countNotEnded();
                case 4: return penalty;
                case 5: return fee;
                case 6: return sold.total;
                case 7: return usedTicks;
                case 8: return soldTicks;
                case 9: return wastedTicks;
                case 10: return freeTicks;
                case 11: return idleTicks;
                default: return missedJobs;
            }
        }

        // ---- market

        boolean canBuy(Promise promise, int buyer) {
            return promise.price != NONE && promise.owner != buyer
                    && knownProcess(buyer).money >= promise.price;
        }

        /** Sells a promise to a process that can buy it. */
        void sell(Promise promise, int buyer) {
            int price = promise.price;
            int toBank = price * fee / 100;
            knownProcess(buyer).money -= price;
            knownProcess(promise.owner).earn(price - toBank);
            bankMoney += toBank;
            sold.add(promise.owner, buyer, price);
            promise.owner = buyer;
            promise.price = NONE;
        }

        int cheapestFor(int buyer) {
            Promise cheapest = null;
            int number = NONE;
            for (int i = 0; i < timeline.promiseCount; i++) {
                Promise one = timeline.knownPromise(i);
                if (canBuy(one, buyer) && (cheapest == null || isCheaper(one, cheapest))) {
                    cheapest = one;
                    number = i;
                }
            }
            return number;
        }

        private static boolean isCheaper(Promise one, Promise other) {
            return one.price < other.price || one.price == other.price && one.budget > other.budget;
        }

        // ---- time

        void pass(int ticks) {
            for (int i = 0; i < ticks; i++) {
                passTick();
            }
        }

        private void passTick() {
            for (int i = 0; i < processCount; i++) {
                processes[i].arrive(timeline.time);
            }
            timeline.releaseJobs();
            Promise chosen = timeline.chooseJob();
            if (chosen == null) {
                giveFreeTick();
            } else {
                giveTickOf(chosen);
            }
            missedJobs += timeline.growTime();
        }

        private void giveTickOf(Promise promise) {
            Process holder = knownProcess(promise.holder);
            if (holder.backlog > 0) {
                holder.backlog--;
                holder.usedTicks++;
                promise.usedTicks++;
                usedTicks++;
                return;
            }
            Process buyer = highestBidder();
            if (buyer != null) {
                sellTick(holder, buyer);
                promise.soldTicks++;
                soldTicks++;
            } else {
                payPenalty(holder);
                promise.wastedTicks++;
                wastedTicks++;
            }
        }

        /** The buyer of a tick, or null; a holder who sells has no backlog, so it is never the holder. */
        private Process highestBidder() {
            Process highest = null;
            for (int i = 0; i < processCount; i++) {
                Process one = processes[i];
                if (one.canBuyTick() && (highest == null || one.bid > highest.bid)) {
                    highest = one;
                }
            }
            return highest;
        }

        private static void sellTick(Process holder, Process buyer) {
            buyer.money -= buyer.bid;
            buyer.backlog--;
            buyer.boughtTicks++;
            buyer.boughtFor += buyer.bid;
            holder.earn(buyer.bid);
            holder.soldFor += buyer.bid;
        }

        private void payPenalty(Process holder) {
            int sum = Math.min(penalty, holder.money);
            holder.money -= sum;
            holder.penalties += sum;
            bankMoney += sum;
        }

        private void giveFreeTick() {
            int number = nextWithBacklog();
            if (number == NONE) {
                idleTicks++;
                return;
            }
            Process runner = knownProcess(number);
            runner.backlog--;
            runner.freeTicks++;
            freeTicks++;
            latestFree = number;
        }

        private int nextWithBacklog() {
            int number = latestFree;
            for (int i = 0; i < processCount; i++) {
                number = number + 1 < processCount ? number + 1 : 0;
                if (knownProcess(number).backlog > 0) {
                    return number;
                }
            }
            return NONE;
        }
    }

    private enum Token { END, WORD, NUMBER, SEMICOLON, WRONG }

    /** The text buffer, and the parser that reads it as a setup. */
    private static final class SetupText {
        static final int NOT_ALLOWED = 1;
        static final int OUT_OF_RANGE = 2;
        static final int TOO_MANY = 3;
        static final int NOT_ACCEPTED = 4;
        /** Stands for every greater number, as numbers may have any number of digits. */
        static final int TOO_GREAT = 10000000;

        final byte[] bytes = new byte[MOST_TEXT];
        int length;
        /** What the text sets up; it is of use only after a parse without an error. */
        final State target = new State();
        final Timeline trial = new Timeline();
        int error;
        int errorStart = NONE;
        Token token = Token.END;
        int start;
        int behind;
        int value;

        void append(int fourBytes) {
            for (int shift = 24; shift >= 0 && length < MOST_TEXT; shift -= 8) {
                bytes[length] = (byte) (fourBytes >> shift);
                length++;
            }
        }

        /** Reads the text and tells whether it has no error. */
        boolean parse() {
            target.clear();
            error = 0;
            errorStart = NONE;
            behind = 0;
            nextToken();
            // a statement has at least one byte, so there are fewer statements than bytes
            for (int i = 0; i < length && token != Token.END; i++) {
                if (!readStatement() || !readSemicolon()) {
                    return false;
                }
            }
            return true;
        }

        private boolean readStatement() {
            if (isWord("penalty")) {
                return readPenalty();
            }
            if (isWord("fee")) {
                return readFee();
            }
            if (isWord("process")) {
                return readProcess() && (!isWord("every") || readArrival());
            }
            if (isWord("promise")) {
                return readPromise() && (!isWord("ask") || readPrice());
            }
            return fail(NOT_ALLOWED);
        }

        // each of these begins at its word and, if there is no error, ends at the token behind its last one

        private boolean readPenalty() {
            if (!readNumber(0, MOST_PENALTY)) {
                return false;
            }
            target.penalty = value;
            nextToken();
            return true;
        }

        private boolean readFee() {
            if (!readNumber(0, MOST_FEE)) {
                return false;
            }
            target.fee = value;
            nextToken();
            return true;
        }

        private boolean readProcess() {
            if (target.processCount >= MOST_PROCESSES) {
                return fail(TOO_MANY);
            }
            if (!readNumber(0, MOST_MONEY)) {
                return false;
            }
            int money = value;
            if (!readNumber(0, MOST_BACKLOG)) {
                return false;
            }
            int backlog = value;
            if (!readNumber(0, MOST_BID)) {
                return false;
            }
            target.enter(money, backlog, value);
            nextToken();
            return true;
        }

        private boolean readArrival() {
            Process latest = target.knownProcess(target.processCount - 1);
            if (!readNumber(0, MOST_EVERY)) {
                return false;
            }
            latest.every = value;
            if (!readNumber(0, MOST_AMOUNT)) {
                return false;
            }
            latest.amount = value;
            nextToken();
            return true;
        }

        private boolean readPromise() {
            if (target.timeline.promiseCount >= MOST_PROMISES) {
                return fail(TOO_MANY);
            }
            if (!readNumber(0, target.processCount - 1)) {
                return false;
            }
            int owner = value;
            if (!readNumber(LEAST_PERIOD, CYCLE)) {
                return false;
            }
            int period = value;
            if (!isPeriod(period)) {
                return fail(OUT_OF_RANGE);
            }
            if (!readNumber(1, CYCLE)) {
                return false;
            }
            int budget = value;
            if (!readNumber(budget, period)) {
                return false;
            }
            if (!trial.accepts(target.timeline, period, budget, value)) {
                return fail(NOT_ACCEPTED);
            }
            target.timeline.add(owner, period, budget, value);
            nextToken();
            return true;
        }

        private boolean readPrice() {
            if (!readNumber(0, MOST_PRICE)) {
                return false;
            }
            target.timeline.knownPromise(target.timeline.promiseCount - 1).price = value;
            nextToken();
            return true;
        }

        private boolean readSemicolon() {
            if (token != Token.SEMICOLON) {
                return fail(NOT_ALLOWED);
            }
            nextToken();
            return true;
        }

        /** Goes on to the next token, which must be a number of this range, and puts it into value. */
        private boolean readNumber(int least, int most) {
            nextToken();
            if (token != Token.NUMBER) {
                return fail(NOT_ALLOWED);
            }
            return isWithin(value, least, most) || fail(OUT_OF_RANGE);
        }

        /** Notes an error at the present token. */
        private boolean fail(int code) {
            error = code;
            errorStart = start;
            return false;
        }

        // ---- tokens

        private void nextToken() {
            start = behind;
            while (start < length && (bytes[start] == ' ' || bytes[start] == '\n')) {
                start++;
            }
            behind = start;
            if (start >= length) {
                token = Token.END;
            } else if (bytes[start] >= 'a' && bytes[start] <= 'z') {
                token = Token.WORD;
                passWord();
            } else if (bytes[start] >= '0' && bytes[start] <= '9') {
                token = Token.NUMBER;
                passNumber();
            } else {
                token = bytes[start] == ';' ? Token.SEMICOLON : Token.WRONG;
                behind++;
            }
        }

        private void passWord() {
            while (behind < length && bytes[behind] >= 'a' && bytes[behind] <= 'z') {
                behind++;
            }
        }

        private void passNumber() {
            value = 0;
            while (behind < length && bytes[behind] >= '0' && bytes[behind] <= '9') {
                value = Math.min(TOO_GREAT, value * 10 + bytes[behind] - '0');
                behind++;
            }
        }

        private boolean isWord(String word) {
            if (token != Token.WORD || behind - start != word.length()) {
                return false;
            }
            for (int i = 0; i < word.length(); i++) {
                if (bytes[start + i] != word.charAt(i)) {
                    return false;
                }
            }
            return true;
        }
    }
}
