import com.sun.management.ThreadMXBean;
import java.lang.management.ManagementFactory;

/** All calls of a run share one room, so no call may make objects; only a new object makes some. */
public final class RoomTest {
    private static final int CALLS = 200;
    private static final Check CHECK = new Check();
    private static final ThreadMXBean THREADS = (ThreadMXBean) ManagementFactory.getThreadMXBean();
    private static final String SETUP = "penalty 6;fee 11;process 500 9 9;process 500 0 30 every 7 2;"
            + "process 0 3 0;promise 0 4 1 3 ask 10;promise 1 10 3 8;promise 2 60 9 60;promise 0 120 2 120 ask 3;";
    private static long sum = 0;

    private static long allocated(Check.Order order) {
        long before = THREADS.getThreadAllocatedBytes(Thread.currentThread().getId());
        order.carryOut();
        return THREADS.getThreadAllocatedBytes(Thread.currentThread().getId()) - before;
    }

    private static void someOfEach(PromiseMarket market) {
        sum += market.setBid(0, 5) + market.addWork(0, 5) + market.pay(0, 5) + market.process(0, 11);
        market.setArrival(0, 5, 2);
        sum += (market.canAccept(120, 1, 120) ? 1 : 0) + market.greatestBudget(60, 60) + market.waitFor(4, 2, 3);
        sum += market.told(0, 16) + market.demand(240) + market.tightest() + market.spare() + market.ask(0, 7);
        sum += (market.isBounded(120, 1, 120) ? 1 : 0) + (market.load() > 0.5 ? 1 : 0);
        sum += market.buy(0, market.told(0, 1) == 0 ? 1 : 0) + market.buyCheapest(2) + market.sales(0, 1);
        sum += market.partners() + (market.meanPrice() > 5 ? 1 : 0) + market.count(12) + market.bank();
        market.setRules(5, 10);
        sum += market.run(7) + market.ticksToFinish(0, 90) + market.moneyAfter(0, 90) + market.bestBid(0, 9);
        market.save(0);
        sum += market.promise(0, 120, 1, 120) + market.split(3, 1) + market.lease(4, 1, 1, 1) + market.end(4);
        market.restore(0);
    }

    /** The last bytes of the text are blanks, so that four bytes a call are enough. */
    private static void readSetup(PromiseMarket market, int[] text) {
        for (int four : text) {
            market.appendText(four);
        }
        sum += market.read() + market.errorCode() + market.errorPosition();
    }

    private static int[] inFours(String text) {
        int[] fours = new int[(text.length() + 3) / 4];
        for (int i = 0; i < fours.length * 4; i++) {
            fours[i / 4] = fours[i / 4] << 8 | (i < text.length() ? text.charAt(i) : ' ');
        }
        return fours;
    }

    public static void main(String[] args) {
        PromiseMarket market = Setups.market(SETUP);
        int[] text = inFours(SETUP);
        market.addProcess(1000, 0, 0);
        allocated(() -> someOfEach(market));
        readSetup(market, text);
        long calls = allocated(() -> {
            for (int i = 0; i < CALLS; i++) {
                someOfEach(market);
                readSetup(market, text);
            }
        });
        CHECK.due("bytes of calls are few (" + calls + ")", calls < 16 * CALLS, true);
        long made = allocated(() -> {
            for (int i = 0; i < 100; i++) {
                sum += new PromiseMarket().read();
            }
        }) / 100;
        CHECK.due("bytes of a new object are few (" + made + ")", made < 40000, true);
        CHECK.due("the calls were made", sum != 0, true);
        CHECK.end();
    }
}
