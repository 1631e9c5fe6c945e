import java.util.ArrayList;
import java.util.List;

/** Counts the answers of a test that are not as due, and ends the test. */
final class Check {
    interface Call {
        Object answer();
    }

    interface Order {
        void carryOut();
    }

    private final List<String> faults = new ArrayList<>();
    private int checks = 0;

    void due(String what, Object got, Object want) {
        checks++;
        if (!String.valueOf(got).equals(String.valueOf(want))) {
            faults.add(what + " answered " + got + ", due is " + want);
        }
    }

    /** The exception must be of just this class, so that none of the machine's own can stand for it. */
    void dueThrow(String what, Class<? extends RuntimeException> want, Order order) {
        checks++;
        try {
            order.carryOut();
            faults.add(what + " threw nothing, due is " + want.getName());
        } catch (RuntimeException e) {
            if (e.getClass() != want) {
                faults.add(what + " threw " + e.getClass().getName() + ", due is " + want.getName());
            }
        }
    }

    void dueIndex(String what, Order order) {
        dueThrow(what, IndexOutOfBoundsException.class, order);
    }

    void dueArgument(String what, Order order) {
        dueThrow(what, IllegalArgumentException.class, order);
    }

    void dueState(String what, Order order) {
        dueThrow(what, IllegalStateException.class, order);
    }

    /** How many checks there have been. */
    int count() {
        return checks;
    }

    /** Prints the faults; the exit code is 1 if there was one. */
    void end() {
        for (String fault : faults) {
            System.out.println(fault);
        }
        System.out.println(checks + " checks, " + faults.size() + " faults");
        if (!faults.isEmpty()) {
            System.exit(1);
        }
    }
}
