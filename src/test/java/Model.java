import java.math.BigInteger;
import java.nio.charset.StandardCharsets;
import java.util.ArrayList;
import java.util.Comparator;
import java.util.HashMap;
import java.util.HashSet;
import java.util.List;
import java.util.Map;
import java.util.Set;
import java.util.regex.Matcher;
import java.util.regex.Pattern;

/**
 * The document once more, written for plainness alone and apart from the class: whole worlds are copied,
 * jobs are objects in a list, demand is counted job by job, texts are cut by regular expressions.
 */
public final class Model {
    static final class Job {
        Pledge of;
        int left;
        int due;
        int holder;
    }

    static final class Pledge {
        int number;
        boolean ended;
        int owner;
        int period;
        int budget;
        int deadline;
        int next;
        int price = -1;
        final List<Integer> holdersToCome = new ArrayList<>();
        int[] counts = new int[5];

        Pledge copy() {
            Pledge twin = new Pledge();
            twin.number = number;
            twin.ended = ended;
            twin.owner = owner;
            twin.period = period;
            twin.budget = budget;
            twin.deadline = deadline;
            twin.next = next;
            twin.price = price;
            twin.holdersToCome.addAll(holdersToCome);
            twin.counts = counts.clone();
            return twin;
        }
    }

    static final class World {
        int time;
        int penalty = 5;
        int fee = 10;
        long bank;
        int latestFree = -1;
        int idle;
        int missed;
        final List<long[]> processes = new ArrayList<>();
        final List<Pledge> pledges = new ArrayList<>();
        final List<Job> jobs = new ArrayList<>();
        final List<int[]> sales = new ArrayList<>();

        World copy() {
            World twin = new World();
            twin.time = time;
            twin.penalty = penalty;
            twin.fee = fee;
            twin.bank = bank;
            twin.latestFree = latestFree;
            twin.idle = idle;
            twin.missed = missed;
            for (long[] process : processes) {
                twin.processes.add(process.clone());
            }
            for (Pledge pledge : pledges) {
                twin.pledges.add(pledge.copy());
            }
            for (Job job : jobs) {
                Job copied = new Job();
                copied.of = twin.pledges.get(job.of.number);
                copied.left = job.left;
                copied.due = job.due;
                copied.holder = job.holder;
                twin.jobs.add(copied);
            }
            twin.sales.addAll(sales);
            return twin;
        }

        Job jobOf(Pledge pledge) {
            for (Job job : jobs) {
                if (job.of == pledge) {
                    return job;
                }
            }
            return null;
        }

        void give(int process, long sum) {
            long[] it = processes.get(process);
            it[0] = it[0] + sum > 1000000 ? 1000000 : it[0] + sum;
        }

        void arrivals() {
            for (long[] it : processes) {
                if (it[3] != 0 && time % it[3] == 0) {
                    it[1] = it[1] + it[4] > 9999 ? 9999 : it[1] + it[4];
                }
            }
        }

        void releases() {
            for (Pledge pledge : pledges) {
                if (!pledge.ended && pledge.next == time) {
                    Job job = new Job();
                    job.of = pledge;
                    job.left = pledge.budget;
                    job.due = time + pledge.deadline;
                    job.holder = pledge.holdersToCome.isEmpty() ? pledge.owner : pledge.holdersToCome.remove(0);
                    jobs.add(job);
                    pledge.next = time + pledge.period;
                    pledge.counts[3]++;
                }
            }
        }

        Job earliest() {
            List<Job> waiting = new ArrayList<>(jobs);
            waiting.removeIf(job -> job.left == 0);
            waiting.sort(Comparator.<Job>comparingInt(job -> job.due).thenComparingInt(job -> job.of.number));
            return waiting.isEmpty() ? null : waiting.get(0);
        }

        void after() {
            time++;
            List<Job> over = new ArrayList<>(jobs);
            over.removeIf(job -> job.due > time);
            for (Job job : over) {
                if (job.left > 0) {
                    missed++;
                    job.of.counts[4]++;
                }
                jobs.remove(job);
            }
        }

        void tick() {
            arrivals();
            releases();
            Job job = earliest();
            if (job != null) {
                job.left--;
                spend(job);
            } else {
                free();
            }
            after();
        }

        void spend(Job job) {
            long[] holder = processes.get(job.holder);
            if (holder[1] > 0) {
                holder[1]--;
                holder[5]++;
                job.of.counts[0]++;
                return;
            }
            int buyer = -1;
            for (int bid = 99; bid >= 1 && buyer < 0; bid--) {
                for (int i = 0; i < processes.size() && buyer < 0; i++) {
                    long[] it = processes.get(i);
                    if (i != job.holder && it[1] > 0 && it[2] == bid && it[0] >= bid) {
                        buyer = i;
                    }
                }
            }
            if (buyer >= 0) {
                long[] it = processes.get(buyer);
                it[0] -= it[2];
                it[1]--;
                it[6]++;
                it[9] += it[2];
                holder[8] += it[2];
                give(job.holder, it[2]);
                job.of.counts[1]++;
                return;
            }
            long paid = holder[0] < penalty ? holder[0] : penalty;
            holder[0] -= paid;
            holder[10] += paid;
            bank += paid;
            job.of.counts[2]++;
        }

        void free() {
            int count = processes.size();
            for (int i = latestFree + 1; i <= latestFree + count; i++) {
                long[] it = processes.get(i % count);
                if (it[1] > 0) {
                    it[1]--;
                    it[7]++;
                    latestFree = i % count;
                    return;
                }
            }
            idle++;
        }

        /** The timeline: the number of ticks without a job, or -1 if a job is missed. */
        int timeline() {
            World line = copy();
            int none = 0;
            for (int i = 0; i < 360; i++) {
                line.releases();
                Job job = line.earliest();
                if (job == null) {
                    none++;
                } else {
                    job.left--;
                }
                line.after();
            }
            return line.missed > missed ? -1 : none;
        }

        Pledge pledge(int owner, int period, int budget, int deadline) {
            Pledge pledge = new Pledge();
            pledge.number = pledges.size();
            pledge.owner = owner;
            pledge.period = period;
            pledge.budget = budget;
            pledge.deadline = deadline;
            pledge.next = time;
            pledges.add(pledge);
            return pledge;
        }

        boolean accepts(int period, int budget, int deadline) {
            World with = copy();
            with.pledge(0, period, budget, deadline);
            int sum = 0;
            for (Pledge pledge : with.pledges) {
                sum += pledge.ended ? 0 : pledge.budget * (120 / pledge.period);
            }
            return sum <= 120 && with.timeline() >= 0;
        }

        int demand(int ticks) {
            int sum = 0;
            for (Pledge pledge : pledges) {
                for (int release = 0; !pledge.ended && release + pledge.deadline <= ticks; release += pledge.period) {
                    sum += pledge.budget;
                }
            }
            return sum;
        }

        void buy(Pledge pledge, int buyer) {
            int cut = pledge.price * fee / 100;
            processes.get(buyer)[0] -= pledge.price;
            give(pledge.owner, pledge.price - cut);
            bank += cut;
            sales.add(new int[] {pledge.owner, buyer, pledge.price});
            pledge.owner = buyer;
            pledge.price = -1;
        }
    }

    /** A fault in a setup text. */
    static final class Wrong extends Exception {
        private static final long serialVersionUID = 1;
        final int code;
        final int position;

        Wrong(int code, int position) {
            this.code = code;
            this.position = position;
        }
    }

    private World world = new World();
    private final Map<Integer, World> slots = new HashMap<>();
    private byte[] text = new byte[0];
    private int code = 0;
    private int position = -1;

    private static void argument(boolean fine) {
        if (!fine) {
            throw new IllegalArgumentException();
        }
    }

    private static void state(boolean fine) {
        if (!fine) {
            throw new IllegalStateException();
        }
    }

    private static boolean in(int value, int least, int most) {
        return value >= least && value <= most;
    }

    private static boolean isPeriod(int period) {
        return List.of(2, 3, 4, 5, 6, 8, 10, 12, 15, 20, 24, 30, 40, 60, 120).contains(period);
    }

    private static void promiseArguments(int period, int budget, int deadline) {
        argument(isPeriod(period) && in(budget, 1, 120) && in(deadline, budget, period));
    }

    private long[] processOf(int process) {
        if (!in(process, 0, world.processes.size() - 1)) {
            throw new IndexOutOfBoundsException();
        }
        return world.processes.get(process);
    }

    private Pledge pledgeOf(int promise) {
        if (!in(promise, 0, world.pledges.size() - 1)) {
            throw new IndexOutOfBoundsException();
        }
        return world.pledges.get(promise);
    }

    public int addProcess(int money, int backlog, int bid) {
        argument(in(money, 0, 1000000) && in(backlog, 0, 9999) && in(bid, 0, 99));
        state(world.processes.size() < 8);
        world.processes.add(new long[] {money, backlog, bid, 0, 0, 0, 0, 0, 0, 0, 0});
        return world.processes.size() - 1;
    }

    public int setBid(int process, int bid) {
        long[] it = processOf(process);
        argument(in(bid, 0, 99));
        int before = (int) it[2];
        it[2] = bid;
        return before;
    }

    public void setArrival(int process, int every, int amount) {
        long[] it = processOf(process);
        argument(in(every, 0, 60) && in(amount, 0, 60));
        it[3] = every;
        it[4] = amount;
    }

    public int addWork(int process, int ticks) {
        long[] it = processOf(process);
        argument(in(ticks, 1, 1000));
        it[1] = Math.min(9999, it[1] + ticks);
        return (int) it[1];
    }

    public int pay(int process, int money) {
        long[] it = processOf(process);
        argument(in(money, 1, 10000));
        world.give(process, money);
        return (int) it[0];
    }

    public int process(int process, int what) {
        long[] it = processOf(process);
        argument(in(what, 0, 11));
        if (what < 11) {
            return (int) it[what];
        }
        return (int) world.pledges.stream().filter(p -> !p.ended && p.owner == process).count();
    }

    public int promise(int owner, int period, int budget, int deadline) {
        processOf(owner);
        promiseArguments(period, budget, deadline);
        state(world.pledges.size() < 20);
        state(world.accepts(period, budget, deadline));
        return world.pledge(owner, period, budget, deadline).number;
    }

    public boolean canAccept(int period, int budget, int deadline) {
        promiseArguments(period, budget, deadline);
        return world.accepts(period, budget, deadline);
    }

    public int greatestBudget(int period, int deadline) {
        argument(isPeriod(period) && in(deadline, 1, period));
        int greatest = 0;
        for (int budget = 1; budget <= deadline; budget++) {
            greatest = world.accepts(period, budget, deadline) ? budget : greatest;
        }
        return greatest;
    }

    public int waitFor(int period, int budget, int deadline) {
        promiseArguments(period, budget, deadline);
        World then = world.copy();
        for (int ticks = 0; ticks <= 120; ticks++) {
            if (then.accepts(period, budget, deadline)) {
                return ticks;
            }
            then.tick();
        }
        return -1;
    }

    public int end(int promise) {
        Pledge pledge = pledgeOf(promise);
        state(!pledge.ended);
        Job job = world.jobOf(pledge);
        world.jobs.remove(job);
        pledge.ended = true;
        pledge.price = -1;
        pledge.holdersToCome.clear();
        return job == null ? 0 : job.left;
    }

    public int split(int promise, int part) {
        Pledge pledge = pledgeOf(promise);
        argument(in(part, 1, pledge.budget - 1));
        state(!pledge.ended);
        state(world.pledges.size() < 20);
        Pledge rest = world.pledge(pledge.owner, pledge.period, pledge.budget - part, pledge.deadline);
        rest.next = pledge.next;
        pledge.budget = part;
        Job job = world.jobOf(pledge);
        if (job != null) {
            Job other = new Job();
            other.of = rest;
            other.holder = job.holder;
            other.due = job.due;
            other.left = job.left > part ? job.left - part : 0;
            job.left -= other.left;
            world.jobs.add(other);
        }
        return rest.number;
    }

    public int told(int promise, int what) {
        Pledge pledge = pledgeOf(promise);
        argument(in(what, 0, 16));
        Job job = world.jobOf(pledge);
        List<Integer> lease = pledge.holdersToCome;
        if (what >= 12) {
            return pledge.counts[what - 12];
        }
        return List.of(pledge.ended ? 1 : 0, pledge.owner, pledge.period, pledge.budget, pledge.deadline,
                pledge.ended ? -1 : pledge.next, job == null ? -1 : job.left, job == null ? -1 : job.due,
                job == null ? -1 : job.holder, pledge.price, lease.isEmpty() ? -1 : lease.get(0),
                lease.size()).get(what);
    }

    public int demand(int ticks) {
        argument(in(ticks, 1, 240));
        return world.demand(ticks);
    }

    public int tightest() {
        int best = 240;
        for (int ticks = 240; ticks >= 1; ticks--) {
            best = ticks - world.demand(ticks) <= best - world.demand(best) ? ticks : best;
        }
        return best;
    }

    public boolean isBounded(int period, int budget, int deadline) {
        promiseArguments(period, budget, deadline);
        World with = world.copy();
        with.pledge(0, period, budget, deadline);
        for (int ticks = 1; ticks <= 240; ticks++) {
            if (with.demand(ticks) > ticks) {
                return false;
            }
        }
        return true;
    }

    public double load() {
        double sum = 0;
        for (Pledge pledge : world.pledges) {
            sum += pledge.ended ? 0 : (double) pledge.budget / (double) pledge.period;
        }
        return sum;
    }

    public int spare() {
        return world.timeline();
    }

    public int ask(int promise, int price) {
        Pledge pledge = pledgeOf(promise);
        argument(in(price, -1, 99999));
        state(!pledge.ended);
        int before = pledge.price;
        pledge.price = price;
        return before;
    }

    private boolean canBuy(Pledge pledge, int buyer) {
        return pledge.price >= 0 && pledge.owner != buyer && world.processes.get(buyer)[0] >= pledge.price;
    }

    public int buy(int promise, int buyer) {
        Pledge pledge = pledgeOf(promise);
        processOf(buyer);
        state(canBuy(pledge, buyer));
        int before = pledge.owner;
        world.buy(pledge, buyer);
        return before;
    }

    public int buyCheapest(int buyer) {
        processOf(buyer);
        List<Pledge> offers = new ArrayList<>(world.pledges);
        offers.removeIf(pledge -> !canBuy(pledge, buyer));
        offers.sort(Comparator.<Pledge>comparingInt(p -> p.price).thenComparingInt(p -> -p.budget)
                .thenComparingInt(p -> p.number));
        if (offers.isEmpty()) {
            return -1;
        }
        world.buy(offers.get(0), buyer);
        return offers.get(0).number;
    }

    public int lease(int promise, int lessee, int jobs, int price) {
        Pledge pledge = pledgeOf(promise);
        long[] it = processOf(lessee);
        argument(in(jobs, 1, 50) && in(price, 0, 999));
        state(!pledge.ended && pledge.holdersToCome.isEmpty() && pledge.owner != lessee && it[0] >= jobs * price);
        it[0] -= jobs * price;
        world.give(pledge.owner, jobs * price);
        for (int i = 0; i < jobs; i++) {
            pledge.holdersToCome.add(lessee);
        }
        return jobs * price;
    }

    public int sales(int seller, int buyer) {
        processOf(seller);
        processOf(buyer);
        return (int) world.sales.stream().filter(sale -> sale[0] == seller && sale[1] == buyer).count();
    }

    public int partners() {
        Set<String> pairs = new HashSet<>();
        for (int[] sale : world.sales) {
            pairs.add(sale[0] + " to " + sale[1]);
        }
        return pairs.size();
    }

    public float meanPrice() {
        int sum = world.sales.stream().mapToInt(sale -> sale[2]).sum();
        return world.sales.isEmpty() ? -1 : (float) sum / (float) world.sales.size();
    }

    public void setRules(int penalty, int fee) {
        argument(in(penalty, 0, 99) && in(fee, 0, 50));
        world.penalty = penalty;
        world.fee = fee;
    }

    private int sumOfCounts(int index) {
        return world.pledges.stream().mapToInt(pledge -> pledge.counts[index]).sum();
    }

    public int count(int what) {
        argument(in(what, 0, 12));
        int alive = (int) world.pledges.stream().filter(pledge -> !pledge.ended).count();
        int free = (int) world.processes.stream().mapToLong(it -> it[7]).sum();
        return List.of(world.time, world.processes.size(), world.pledges.size(), alive, world.penalty, world.fee,
                world.sales.size(), sumOfCounts(0), sumOfCounts(1), sumOfCounts(2), free, world.idle,
                world.missed).get(what);
    }

    public long bank() {
        return world.bank;
    }

    public int run(int ticks) {
        argument(in(ticks, 1, 500));
        int before = sumOfCounts(2);
        for (int i = 0; i < ticks; i++) {
            world.tick();
        }
        return sumOfCounts(2) - before;
    }

    public int ticksToFinish(int process, int most) {
        processOf(process);
        argument(in(most, 1, 500));
        World then = world.copy();
        int ticks = 0;
        while (then.processes.get(process)[1] > 0) {
            if (ticks == most) {
                return -1;
            }
            then.tick();
            ticks++;
        }
        return ticks;
    }

    public int moneyAfter(int process, int ticks) {
        processOf(process);
        argument(in(ticks, 1, 500));
        World then = world.copy();
        for (int i = 0; i < ticks; i++) {
            then.tick();
        }
        return (int) then.processes.get(process)[0];
    }

    public int bestBid(int process, int ticks) {
        processOf(process);
        argument(in(ticks, 1, 120));
        List<long[]> ends = new ArrayList<>();
        for (int bid = 0; bid <= 99; bid++) {
            World then = world.copy();
            then.processes.get(process)[2] = bid;
            for (int i = 0; i < ticks; i++) {
                then.tick();
            }
            ends.add(then.processes.get(process));
        }
        ends.sort(Comparator.<long[]>comparingLong(it -> it[1]).thenComparingLong(it -> -it[0])
                .thenComparingLong(it -> it[2]));
        return (int) ends.get(0)[2];
    }

    public int appendText(int fourBytes) {
        state(text.length + 4 <= 700);
        byte[] longer = java.util.Arrays.copyOf(text, text.length + 4);
        for (int i = 0; i < 4; i++) {
            longer[text.length + i] = BigInteger.valueOf(fourBytes).shiftRight(24 - 8 * i).byteValue();
        }
        text = longer;
        return text.length;
    }

    public int truncateText(int length) {
        argument(in(length, 0, text.length));
        text = java.util.Arrays.copyOf(text, length);
        return length;
    }

    public int read() {
        String setup = new String(text, StandardCharsets.ISO_8859_1);
        text = new byte[0];
        code = 0;
        position = -1;
        try {
            World fresh = new World();
            new Reader(setup, fresh).setup();
            world = fresh;
            return world.pledges.size();
        } catch (Wrong wrong) {
            code = wrong.code;
            position = wrong.position;
            return -1;
        }
    }

    public int errorCode() {
        return code;
    }

    public int errorPosition() {
        return position;
    }

    public void save(int slot) {
        argument(slot == 0 || slot == 1);
        slots.put(slot, world.copy());
    }

    public void restore(int slot) {
        argument(slot == 0 || slot == 1);
        state(slots.containsKey(slot));
        world = slots.get(slot).copy();
    }

    static final class Reader {
        private static final Pattern TOKEN = Pattern.compile("[ \n]*([a-z]+|[0-9]+|;|$|(?s:.))");
        private final String setup;
        private final World world;
        private final Matcher matcher;
        private String token;
        private int at;

        Reader(String setup, World world) {
            this.setup = setup;
            this.world = world;
            matcher = TOKEN.matcher(setup);
            next();
        }

        void next() {
            if (token != null && token.isEmpty()) {
                return;
            }
            matcher.region(token == null ? 0 : matcher.end(), setup.length());
            matcher.useAnchoringBounds(true);
            if (!matcher.lookingAt()) {
                throw new AssertionError("no token");
            }
            token = matcher.group(1);
            at = matcher.start(1);
        }

        boolean take(String word) {
            boolean is = token.equals(word);
            if (is) {
                next();
            }
            return is;
        }

        int number(int least, int most) throws Wrong {
            int value = peek(least, most);
            next();
            return value;
        }

        int peek(int least, int most) throws Wrong {
            if (!token.matches("[0-9]+")) {
                throw new Wrong(1, at);
            }
            BigInteger value = new BigInteger(token);
            if (value.compareTo(BigInteger.valueOf(least)) < 0 || value.compareTo(BigInteger.valueOf(most)) > 0) {
                throw new Wrong(2, at);
            }
            return value.intValueExact();
        }

        void setup() throws Wrong {
            while (!token.isEmpty()) {
                int first = at;
                if (take("penalty")) {
                    world.penalty = number(0, 99);
                } else if (take("fee")) {
                    world.fee = number(0, 50);
                } else if (take("process")) {
                    process(first);
                } else if (take("promise")) {
                    promise(first);
                } else {
                    throw new Wrong(1, first);
                }
                if (!take(";")) {
                    throw new Wrong(1, at);
                }
            }
        }

        void process(int first) throws Wrong {
            if (world.processes.size() == 8) {
                throw new Wrong(3, first);
            }
            long[] it = {number(0, 1000000), number(0, 9999), number(0, 99), 0, 0, 0, 0, 0, 0, 0, 0};
            if (take("every")) {
                it[3] = number(0, 60);
                it[4] = number(0, 60);
            }
            world.processes.add(it);
        }

        void promise(int first) throws Wrong {
            if (world.pledges.size() == 20) {
                throw new Wrong(3, first);
            }
            int owner = number(0, world.processes.size() - 1);
            int period = peek(2, 120);
            if (120 % period != 0) {
                throw new Wrong(2, at);
            }
            next();
            int budget = number(1, 120);
            int deadline = peek(budget, period);
            if (!world.accepts(period, budget, deadline)) {
                throw new Wrong(4, at);
            }
            next();
            Pledge pledge = world.pledge(owner, period, budget, deadline);
            if (take("ask")) {
                pledge.price = number(0, 99999);
            }
        }
    }
}
