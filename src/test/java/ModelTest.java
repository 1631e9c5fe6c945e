import java.lang.reflect.InvocationTargetException;
import java.lang.reflect.Method;
import java.nio.charset.StandardCharsets;
import java.util.ArrayList;
import java.util.Arrays;
import java.util.HashMap;
import java.util.List;
import java.util.Map;
import java.util.Random;

/** Long runs of calls by chance (always the same ones), each answered by the class and by the model. */
public final class ModelTest {
    private static final int MOST_CALLS = 512;
    private static final int[] PERIODS = {2, 3, 4, 5, 6, 8, 10, 12, 15, 20, 24, 30, 40, 60, 120};
    private static final int[] ODD = {-1, 0, 1, Integer.MIN_VALUE, Integer.MAX_VALUE, 121, 700, 1000001, 10000};

    private final Random random;
    private final PromiseMarket market = new PromiseMarket();
    private final Model model = new Model();
    private final List<String> calls = new ArrayList<>();
    private final Map<String, Method> marketMethods = methods(PromiseMarket.class);
    private final Map<String, Method> modelMethods = methods(Model.class);
    private String fault = null;
    private final boolean isBusy;
    private final boolean isIdle;

    private ModelTest(long seed) {
        random = new Random(seed);
        isBusy = random.nextBoolean();
        isIdle = random.nextBoolean();
    }

    private static Map<String, Method> methods(Class<?> type) {
        Map<String, Method> byName = new HashMap<>();
        for (Method method : type.getMethods()) {
            byName.put(method.getName(), method);
        }
        return byName;
    }

    private static String answer(Method method, Object on, Object[] arguments) {
        try {
            return String.valueOf(method.invoke(on, arguments));
        } catch (InvocationTargetException e) {
            return "throws " + e.getCause().getClass().getName();
        } catch (IllegalAccessException e) {
            throw new AssertionError(e);
        }
    }

    private String call(String name, int... numbers) {
        if (fault != null || calls.size() == MOST_CALLS) {
            return "";
        }
        Object[] arguments = Arrays.stream(numbers).boxed().toArray();
        String got = answer(marketMethods.get(name), market, arguments);
        String want = answer(modelMethods.get(name), model, arguments);
        calls.add(name + Arrays.toString(numbers) + " -> " + got);
        if (!got.equals(want)) {
            fault = "the last call is due " + want + " in\n" + String.join("\n", calls);
        }
        return got;
    }

    private int upTo(int most) {
        return random.nextInt(most + 1);
    }

    /** A number from a range, and now and then one from its edges or from far outside. */
    private int some(int least, int most) {
        int dice = upTo(60);
        if (dice == 0) {
            return ODD[random.nextInt(ODD.length)];
        }
        if (dice <= 2) {
            return dice == 1 ? least - 1 : most + 1;
        }
        if (dice <= 6) {
            return dice <= 4 ? least : most;
        }
        return least + random.nextInt(most - least + 1);
    }

    private int someProcess() {
        return upTo(30) == 0 ? some(0, 7) : upTo(Math.max(0, model.count(1) - 1));
    }

    private int somePromise() {
        return upTo(30) == 0 ? some(0, 19) : upTo(Math.max(0, model.count(2) - 1));
    }

    private int[] someTerms() {
        int period = upTo(25) == 0 ? some(2, 120) : PERIODS[random.nextInt(PERIODS.length)];
        int share = isBusy ? 3 : 10;
        int budget = upTo(15) == 0 ? some(1, 120) : 1 + upTo(Math.max(0, period / share));
        int room = (int) Math.min(1000, Math.max(0, (long) period - budget));
        int deadline = upTo(25) == 0 ? some(1, 120) : upTo(2) == 0 ? period : budget + upTo(room);
        return new int[] {period, budget, deadline};
    }

    private void callWithTerms(String name) {
        int[] terms = someTerms();
        call(name, terms);
    }

    private void promise() {
        int[] terms = someTerms();
        call("promise", someProcess(), terms[0], terms[1], terms[2]);
    }

    private void addProcess() {
        int money = upTo(3) == 0 ? some(999900, 1000000) : some(0, 2000);
        int backlog = upTo(5) == 0 ? some(0, 9999) : isIdle ? 0 : some(0, 40);
        call("addProcess", money, backlog, some(0, 99));
    }

    private void oneCall() {
        switch (upTo(45)) {
            case 0: addProcess(); break;
            case 1: call("setBid", someProcess(), some(0, 99)); break;
            case 2: call("setArrival", someProcess(), some(0, 60), isIdle ? upTo(1) : some(0, 60)); break;
            case 3: call("addWork", someProcess(), upTo(3) == 0 ? some(1, 1000) : some(1, 30)); break;
            case 4: call("pay", someProcess(), some(1, 10000)); break;
            case 5: case 6: call("process", someProcess(), some(0, 11)); break;
            case 7: case 8: case 9: promise(); break;
            case 10: callWithTerms("canAccept"); break;
            case 11: int[] terms = someTerms(); call("greatestBudget", terms[0], terms[2]); break;
            case 12: if (upTo(3) == 0) { callWithTerms("waitFor"); } break;
            case 13: if (upTo(2) == 0) { call("end", somePromise()); } break;
            case 14: call("split", somePromise(), upTo(4) == 0 ? some(1, 120) : some(1, 4)); break;
            case 15: case 16: case 17: call("told", somePromise(), some(0, 16)); break;
            case 18: call("demand", some(1, 240)); break;
            case 19: call("tightest"); break;
            case 20: callWithTerms("isBounded"); break;
            case 21: call("load"); break;
            case 22: call("spare"); break;
            case 23: case 24: call("ask", somePromise(), upTo(3) == 0 ? some(-1, 99999) : some(-1, 300)); break;
            case 25: case 26: call("buy", somePromise(), someProcess()); break;
            case 27: call("buyCheapest", someProcess()); break;
            case 28: case 29: call("lease", somePromise(), someProcess(), some(1, 50), some(0, upTo(2) == 0 ? 999 : 9)); break;
            case 30: call("sales", someProcess(), someProcess()); break;
            case 31: call(upTo(1) == 0 ? "partners" : "meanPrice"); break;
            case 32: if (upTo(2) == 0) { call("setRules", some(0, 99), some(0, 50)); } break;
            case 33: call("count", some(0, 12)); break;
            case 34: call("bank"); break;
            case 35: case 36: case 37: call("run", upTo(9) == 0 ? some(1, 500) : some(1, 20)); break;
            case 38: call("ticksToFinish", someProcess(), upTo(2) == 0 ? some(1, 500) : some(1, 60)); break;
            case 39: call("moneyAfter", someProcess(), upTo(4) == 0 ? some(1, 500) : some(1, 60)); break;
            case 40: if (upTo(6) == 0) { call("bestBid", someProcess(), upTo(4) == 0 ? some(1, 120) : some(1, 30)); } break;
            case 41: call("save", some(0, 1)); break;
            case 42: if (upTo(2) == 0) { call("restore", some(0, 1)); } break;
            case 43: call(upTo(1) == 0 ? "errorCode" : "errorPosition"); break;
            case 44: call("truncateText", some(0, 10)); break;
            default: if (upTo(7) == 0) { setup(); } break;
        }
    }

    // ---- setup texts

    private String gap() {
        return upTo(8) == 0 ? "\n " : " ";
    }

    private String number(int least, int most) {
        return gap() + (upTo(30) == 0 ? "000" : "") + Math.abs((long) (upTo(40) == 0 ? some(least, most)
                : least + random.nextInt(most - least + 1)));
    }

    private String statement(int processes) {
        int dice = processes == 0 ? upTo(4) : upTo(12);
        if (dice == 0) {
            return "penalty" + number(0, 99);
        }
        if (dice == 1) {
            return "fee" + number(0, 50);
        }
        if (dice <= 4) {
            String text = "process" + number(0, 2000) + number(0, 60) + number(0, 99);
            return upTo(2) == 0 ? text + gap() + "every" + number(0, 60) + number(0, 60) : text;
        }
        int period = PERIODS[random.nextInt(PERIODS.length)];
        int budget = 1 + upTo(isBusy ? period / 3 : period / 12);
        String text = "promise" + number(0, processes - 1) + number(period, period) + number(budget, budget)
                + number(Math.min(budget, period), period);
        return upTo(2) == 0 ? text + gap() + "ask" + number(0, 99999) : text;
    }

    private String someSetup() {
        StringBuilder setup = new StringBuilder();
        int statements = upTo(34);
        boolean isLong = upTo(9) == 0;
        int processes = 0;
        for (int i = 0; i < statements; i++) {
            String statement = isLong && i < 7 ? "process 9 9 9" : statement(processes);
            processes = Math.min(8, processes + (statement.startsWith("process") ? 1 : 0));
            setup.append(statement).append(upTo(40) == 0 ? gap() : "").append(upTo(60) == 0 ? "" : ";");
        }
        if (upTo(3) == 0 && setup.length() > 0) {
            int at = random.nextInt(setup.length());
            String[] faults = {"x", ";", "5", "$", "\t", "every", "ask", "\u00e9", "\u0000", "Z", "123456789012345678901"};
            setup.insert(at, faults[random.nextInt(faults.length)]);
        }
        return setup.length() > 700 ? setup.substring(0, 690 + upTo(10)) : setup.toString();
    }

    private void setup() {
        call("truncateText", 0);
        byte[] text = someSetup().getBytes(StandardCharsets.ISO_8859_1);
        for (int i = 0; i < text.length; i += 4) {
            int four = 0;
            for (int k = i; k < i + 4; k++) {
                four = four << 8 | (k < text.length ? text[k] & 255 : 'q');
            }
            call("appendText", four);
        }
        if (upTo(9) == 0) {
            call("appendText", random.nextInt());
        }
        call("truncateText", text.length);
        call("read");
        call("errorCode");
        call("errorPosition");
    }

    // ---- runs

    private void everything() {
        for (int what = 0; what <= 12; what++) {
            call("count", what);
        }
        call("bank");
        for (int i = 0; i < model.count(1); i++) {
            for (int what = 0; what <= 11; what++) {
                call("process", i, what);
            }
        }
        for (int i = 0; i < model.count(2); i++) {
            for (int what = 0; what <= 16; what++) {
                call("told", i, what);
            }
        }
    }

    private void wholeRun() {
        if (upTo(2) == 0) {
            setup();
        }
        while (calls.size() < 60 && upTo(5) > 0 && fault == null) {
            addProcess();
            promise();
        }
        int free = calls.size() < 100 ? 0 : 100;
        while (calls.size() < 130 + free && fault == null) {
            oneCall();
        }
        everything();
        while (calls.size() < MOST_CALLS && fault == null) {
            oneCall();
        }
    }

    public static void main(String[] args) {
        int runs = args.length > 0 ? Integer.parseInt(args[0]) : 400;
        long first = args.length > 1 ? Long.parseLong(args[1]) : 1;
        int wrong = 0;
        for (long seed = first; seed < first + runs && wrong < 3; seed++) {
            ModelTest test = new ModelTest(seed);
            test.wholeRun();
            if (test.fault != null) {
                wrong++;
                System.out.println("run " + seed + ": " + test.fault);
            }
        }
        System.out.println(runs + " runs, " + wrong + " wrong");
        if (wrong > 0) {
            System.exit(1);
        }
    }
}
