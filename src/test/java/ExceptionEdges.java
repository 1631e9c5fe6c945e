import java.lang.reflect.InvocationTargetException;
import java.lang.reflect.Method;
import java.util.ArrayList;
import java.util.List;

/** EXCEPTIONS, and of all promises what the parameters may be and what is thrown otherwise. */
final class ExceptionEdges extends Edges {
    private static final String INDEX = "throws IndexOutOfBoundsException";
    private static final String ARGUMENT = "throws IllegalArgumentException";
    private static final String STATE = "throws IllegalStateException";
    private static final int LEAST = Integer.MIN_VALUE;
    private static final int MOST = Integer.MAX_VALUE;

    /** A parameter: what the document tells of it, which exception is due for it, and for which values. */
    private record Parameter(String told, String exception, int... wrong) {
    }

    /** A call for which the state does not allow it. */
    private record Refused(Scene scene, String reason, int... arguments) {
    }

    /** A method of the face, all in the words of its promise; the calls that are fine begin with an ordinary one. */
    private static final class Face {
        final String place;
        final String name;
        final List<Parameter> parameters = new ArrayList<>();
        final List<String> exceptions = new ArrayList<>();
        final List<Refused> refused = new ArrayList<>();
        Scene scene = Scene.PLAIN;
        int[][] fine;

        Face(int promise, String name, int[]... fine) {
            place = "Promise " + promise;
            this.name = name;
            this.fine = fine;
        }

        Face in(Scene other) {
            scene = other;
            return this;
        }

        Face process(String parameter) {
            parameters.add(new Parameter(parameter + ": a process", INDEX, -1, 3, LEAST, MOST));
            return this;
        }

        Face promise() {
            parameters.add(new Parameter("promise: a promise", INDEX, -1, 6, LEAST, MOST));
            return this;
        }

        Face range(String parameter, int least, int most) {
            return told(parameter + ": " + least + " to " + most, least - 1, most + 1, LEAST, MOST);
        }

        Face told(String told, int... wrong) {
            parameters.add(new Parameter(told, ARGUMENT, wrong));
            return this;
        }

        Face terms() {
            told("period: 2 to 120, a divisor of 120", 1, 121, 0, -1, -2, -120, 7, 9, 119, 240, LEAST, MOST);
            range("budget", 1, 120);
            return told("deadline: the budget to the period", 0, 121, -1, LEAST, MOST);
        }

        /** What the document says behind "Throws". */
        Face thrown(String exception) {
            exceptions.add(exception);
            return this;
        }

        Face refuses(Scene there, String reason, int... arguments) {
            refused.add(new Refused(there, reason, arguments));
            return this;
        }
    }

    ExceptionEdges(Record record) {
        super(record);
    }

    @Override
    void test() {
        for (Face face : faces()) {
            for (int i = 0; i < face.parameters.size(); i++) {
                parameter(face, i);
            }
            for (String exception : face.exceptions) {
                exception(face, exception);
            }
            severalExceptions(face);
            refusedWithWrongArguments(face);
        }
    }

    private static int[] call(int... arguments) {
        return arguments;
    }

    private static List<Face> faces() {
        List<Face> faces = new ArrayList<>();
        addProcesses(faces);
        addPromises(faces);
        addPredictions(faces);
        addMarket(faces);
        addTime(faces);
        addTexts(faces);
        return faces;
    }

    private static void addProcesses(List<Face> faces) {
        String noProcess = "IndexOutOfBoundsException if there is no such process";
        faces.add(new Face(2, "addProcess", call(5, 6, 7), call(0, 6, 7), call(1000000, 6, 7), call(5, 0, 7),
                call(5, 9999, 7), call(5, 6, 0), call(5, 6, 99))
                .range("money", 0, 1000000).range("backlog", 0, 9999).range("bid", 0, 99)
                .thrown("IllegalArgumentException if an argument is out of range")
                .thrown("IllegalStateException if there are 8 processes")
                .refuses(Scene.EIGHT_PROCESSES, "a 9th", 5, 6, 7));
        faces.add(new Face(3, "setBid", call(1, 5), call(0, 5), call(2, 5), call(1, 0), call(1, 99))
                .process("process").range("bid", 0, 99)
                .thrown(noProcess).thrown("IllegalArgumentException if bid is out of range"));
        faces.add(new Face(4, "setArrival", call(1, 5, 6), call(0, 5, 6), call(2, 5, 6), call(1, 0, 6), call(1, 60, 6),
                call(1, 5, 0), call(1, 5, 60))
                .process("process").range("every", 0, 60).range("amount", 0, 60)
                .thrown(noProcess).thrown("IllegalArgumentException if every or amount is out of range"));
        faces.add(new Face(5, "addWork", call(1, 5), call(0, 5), call(2, 5), call(1, 1), call(1, 1000))
                .process("process").range("ticks", 1, 1000)
                .thrown(noProcess).thrown("IllegalArgumentException if ticks is out of range"));
        faces.add(new Face(6, "pay", call(1, 5), call(0, 5), call(2, 5), call(1, 1), call(1, 10000))
                .process("process").range("money", 1, 10000)
                .thrown(noProcess).thrown("IllegalArgumentException if money is out of range"));
        faces.add(new Face(7, "process", call(1, 5), call(0, 5), call(2, 5), call(1, 0), call(1, 11))
                .process("process").told("what:", -1, 12, LEAST, MOST)
                .thrown(noProcess).thrown("IllegalArgumentException if what is out of range"));
    }

    private static void addPromises(List<Face> faces) {
        String noPromise = "IndexOutOfBoundsException if there is no such promise";
        faces.add(new Face(8, "promise", call(1, 120, 1, 120), call(0, 120, 1, 120), call(2, 120, 1, 120), call(1, 2, 1, 1),
                call(1, 120, 120, 120), call(1, 120, 5, 5), call(1, 60, 5, 60)).in(Scene.NO_PROMISES)
                .process("owner").terms()
                .thrown("IndexOutOfBoundsException if there is no such process")
                .thrown("IllegalArgumentException if period, budget or deadline is out of range")
                .thrown("IllegalStateException if there are 20 promises, or it is not accepted")
                .refuses(Scene.TWENTY_PROMISES, "a 21st", 1, 120, 1, 120)
                .refuses(Scene.TWENTY_PROMISES, "a 21st that is not accepted either", 1, 120, 120, 120)
                .refuses(Scene.PLAIN, "the sum is 121", 1, 120, 91, 120)
                .refuses(Scene.EARLY_JOBS, "a job would be missed", 1, 120, 1, 1));
        faces.add(new Face(12, "end", call(1), call(0), call(5)).promise()
                .thrown(noPromise).thrown("IllegalStateException if it has ended")
                .refuses(Scene.PLAIN, "it has ended", 2));
        faces.add(new Face(13, "split", call(1, 3), call(0, 3), call(5, 3), call(1, 1), call(1, 5)).promise()
                .told("part: 1 to its budget - 1", 0, 6, 7, -1, LEAST, MOST)
                .thrown(noPromise).thrown("IllegalArgumentException if part is out of range")
                .thrown("IllegalStateException if it has ended, or there are 20 promises")
                .refuses(Scene.PLAIN, "it has ended", 2, 3)
                .refuses(Scene.TWENTY_PROMISES, "there are 20", 1, 3)
                .refuses(Scene.TWENTY_PROMISES, "there are 20, and it has ended", 3, 3));
        faces.add(new Face(14, "told", call(1, 5), call(0, 5), call(5, 5), call(1, 0), call(1, 16), call(2, 5)).promise()
                .told("what:", -1, 17, LEAST, MOST)
                .thrown(noPromise).thrown("IllegalArgumentException if what is out of range"));
    }

    private static void addPredictions(List<Face> faces) {
        String argument = "IllegalArgumentException if an argument is out of range";
        int[][] fine = {{120, 1, 120}, {2, 1, 1}, {2, 2, 2}, {120, 120, 120}, {120, 1, 1}, {60, 5, 5}, {60, 5, 60}};
        faces.add(new Face(9, "canAccept", fine).terms().thrown(argument));
        faces.add(new Face(10, "greatestBudget", call(60, 30), call(2, 1), call(2, 2), call(120, 1), call(120, 120))
                .told("period: 2 to 120, a divisor of 120", 1, 121, 0, -1, -2, -120, 7, 9, 119, 240, LEAST, MOST)
                .told("deadline: 1 to the period", 0, 61, -1, LEAST, MOST).thrown(argument));
        faces.add(new Face(11, "waitFor", fine).terms().thrown(argument));
        faces.add(new Face(17, "isBounded", fine).terms().thrown(argument));
        faces.add(new Face(15, "demand", call(5), call(1), call(240)).range("ticks", 1, 240)
                .thrown("IllegalArgumentException if ticks is out of range"));
    }

    private static void addMarket(List<Face> faces) {
        String noPromise = "IndexOutOfBoundsException if there is no such promise";
        faces.add(new Face(20, "ask", call(1, 5), call(0, 5), call(5, 5), call(1, -1), call(1, 0), call(1, 99999)).promise()
                .told("price: 0 to 99999, or NONE for no price", -2, 100000, LEAST, MOST)
                .thrown(noPromise).thrown("IllegalArgumentException if price is out of range")
                .thrown("IllegalStateException if the promise has ended")
                .refuses(Scene.PLAIN, "it has ended", 2, 5).refuses(Scene.PLAIN, "it has ended, no price", 2, -1));
        faces.add(new Face(21, "buy", call(0, 1), call(5, 1), call(4, 2), call(3, 0)).promise().process("buyer")
                .thrown("IndexOutOfBoundsException if there is no such promise or process")
                .thrown("IllegalStateException if no price is asked, the buyer is the owner, or it has less money than "
                        + "the price")
                .refuses(Scene.PLAIN, "no price", 1, 0).refuses(Scene.PLAIN, "it has ended", 2, 1)
                .refuses(Scene.PLAIN, "the owner", 0, 0).refuses(Scene.PLAIN, "the owner, who has less", 5, 2)
                .refuses(Scene.PLAIN, "no price, the owner", 1, 1)
                .refuses(Scene.PLAIN, "less money", 0, 2));
        faces.add(new Face(22, "buyCheapest", call(1), call(0), call(2)).process("buyer")
                .thrown("IndexOutOfBoundsException if there is no such process"));
        faces.add(new Face(23, "lease", call(0, 1, 2, 3), call(5, 1, 2, 3), call(3, 0, 2, 3), call(0, 2, 2, 3),
                call(0, 1, 1, 3), call(0, 1, 50, 3), call(0, 1, 2, 0), call(0, 1, 2, 999)).promise().process("lessee")
                .range("jobs", 1, 50).told("price: 0 to 999, for each job", -1, 1000, LEAST, MOST)
                .thrown("IndexOutOfBoundsException if there is no such promise or process")
                .thrown("IllegalArgumentException if jobs or price is out of range")
                .thrown("IllegalStateException if the promise has ended or is leased, the lessee is the owner, or it has "
                        + "less money than it must pay")
                .refuses(Scene.PLAIN, "it has ended", 2, 1, 2, 3).refuses(Scene.PLAIN, "it is leased", 1, 0, 2, 3)
                .refuses(Scene.PLAIN, "leased to just this one", 1, 2, 2, 3)
                .refuses(Scene.PLAIN, "the owner", 0, 0, 2, 3).refuses(Scene.PLAIN, "less money", 0, 1, 50, 999)
                .refuses(Scene.PLAIN, "leased, the owner, less money", 1, 1, 50, 999));
        faces.add(new Face(24, "sales", call(0, 1), call(0, 0), call(2, 2)).process("seller").process("buyer")
                .thrown("IndexOutOfBoundsException if there is no such process"));
        faces.add(new Face(27, "setRules", call(5, 6), call(0, 6), call(99, 6), call(5, 0), call(5, 50))
                .range("penalty", 0, 99).range("fee", 0, 50)
                .thrown("IllegalArgumentException if an argument is out of range"));
        faces.add(new Face(28, "count", call(5), call(0), call(12)).told("what:", -1, 13, LEAST, MOST)
                .thrown("IllegalArgumentException if what is out of range"));
    }

    private static void addTime(List<Face> faces) {
        String noProcess = "IndexOutOfBoundsException if there is no such process";
        faces.add(new Face(30, "run", call(5), call(1), call(500)).range("ticks", 1, 500)
                .thrown("IllegalArgumentException if ticks is out of range"));
        faces.add(new Face(31, "ticksToFinish", call(1, 5), call(0, 5), call(2, 5), call(1, 1), call(1, 500))
                .process("process").range("most", 1, 500)
                .thrown(noProcess).thrown("IllegalArgumentException if most is out of range"));
        faces.add(new Face(32, "moneyAfter", call(1, 5), call(0, 5), call(2, 5), call(1, 1), call(1, 500))
                .process("process").range("ticks", 1, 500)
                .thrown(noProcess).thrown("IllegalArgumentException if ticks is out of range"));
        faces.add(new Face(33, "bestBid", call(1, 5), call(0, 5), call(2, 5), call(1, 1), call(1, 120))
                .process("process").range("ticks", 1, 120)
                .thrown(noProcess).thrown("IllegalArgumentException if ticks is out of range"));
    }

    private static void addTexts(List<Face> faces) {
        faces.add(new Face(34, "appendText", call(5), call(0), call(LEAST), call(MOST), call(-1))
                .thrown("IllegalStateException if the text would be longer than 700 bytes")
                .refuses(Scene.TEXT_OF_697, "697 and 4", 5).refuses(Scene.TEXT_OF_700, "700 and 4", 5));
        faces.add(new Face(35, "truncateText", call(5), call(0), call(13))
                .told("length: the new length, 0 to the present length", -1, 14, 700, LEAST, MOST)
                .thrown("IllegalArgumentException if length is out of range"));
        faces.add(new Face(39, "save", call(0), call(1))
                .told("slot: 0 or 1; a state that is already saved there is replaced", -1, 2, LEAST, MOST)
                .thrown("IllegalArgumentException if slot is out of range"));
        faces.add(new Face(40, "restore", call(0)).told("slot: 0 or 1", -1, 2, LEAST, MOST)
                .thrown("IllegalArgumentException if slot is out of range")
                .thrown("IllegalStateException if nothing is saved there")
                .refuses(Scene.PLAIN, "slot 1", 1).refuses(Scene.NO_STATES, "slot 0", 0));
    }

    // ---- the tests

    /** Each value beyond the ends throws, and the ends themselves do not. */
    private void parameter(Face face, int index) {
        Parameter parameter = face.parameters.get(index);
        quote(face.place, parameter.told);
        for (int[] fine : face.fine) {
            due(text(face, fine) + " throws", answer(face.scene.make(), face, fine).startsWith("throws"), false);
        }
        for (int wrong : parameter.wrong) {
            int[] arguments = with(face.fine[0], index, wrong);
            due(text(face, arguments), answer(face.scene.make(), face, arguments), parameter.exception);
        }
    }

    /** Each of its causes alone, and that nothing changes then. */
    private void exception(Face face, String exception) {
        String due = "throws " + exception.substring(0, exception.indexOf(' '));
        for (int i = 0; i < face.parameters.size(); i++) {
            for (int wrong : face.parameters.get(i).wrong) {
                if (face.parameters.get(i).exception.equals(due)) {
                    quote(face.place, "Throws " + exception);
                    dueAnswer(face, face.scene, with(face.fine[0], i, wrong), due);
                    dueNoChange(face, face.scene, with(face.fine[0], i, wrong));
                }
            }
        }
        for (Refused refused : face.refused) {
            if (due.equals(STATE)) {
                quote(face.place, "Throws " + exception);
                dueAnswer(face, refused.scene, refused.arguments, STATE);
                dueNoChange(face, refused.scene, refused.arguments);
            }
        }
    }

    private void dueAnswer(Face face, Scene scene, int[] arguments, String exception) {
        due(text(face, arguments) + " in " + scene, answer(scene.make(), face, arguments), exception);
    }

    private void dueNoChange(Face face, Scene scene, int[] arguments) {
        quote("EXCEPTIONS", "A method that throws an exception changes nothing.");
        for (int view = 0; view < Scene.VIEWS; view++) {
            PromiseMarket market = scene.make();
            answer(market, face, arguments);
            due(text(face, arguments) + " in " + scene + ", view " + view, Scene.seen(market, view), scene.untouched(view));
        }
    }

    /** Each two wrong arguments together: the document lists the index before the argument. */
    private void severalExceptions(Face face) {
        for (int i = 0; i < face.parameters.size(); i++) {
            for (int k = i + 1; k < face.parameters.size(); k++) {
                Parameter first = face.parameters.get(i);
                Parameter second = face.parameters.get(k);
                String due = first.exception.equals(INDEX) || second.exception.equals(INDEX) ? INDEX : ARGUMENT;
                for (int one : first.wrong) {
                    for (int other : second.wrong) {
                        dueFirst(face, face.scene, with(with(face.fine[0], i, one), k, other), due);
                    }
                }
                dueNoChange(face, face.scene, with(with(face.fine[0], i, first.wrong[0]), k, second.wrong[0]));
            }
        }
    }

    /** A call that the state does not allow, with a wrong argument besides: the state comes last in all lists. */
    private void refusedWithWrongArguments(Face face) {
        for (Refused refused : face.refused) {
            quote(face.place, face.exceptions.get(face.exceptions.size() - 1));
            due(refused.reason + ": " + text(face, refused.arguments),
                    answer(refused.scene.make(), face, refused.arguments), STATE);
            for (int i = 0; i < face.parameters.size(); i++) {
                for (int wrong : wrongIn(refused.scene, face.parameters.get(i))) {
                    dueFirst(face, refused.scene, with(refused.arguments, i, wrong), face.parameters.get(i).exception);
                }
            }
        }
    }

    /** A scene with more processes or promises has other wrong numbers. */
    private static int[] wrongIn(Scene scene, Parameter parameter) {
        boolean isMany = scene == Scene.EIGHT_PROCESSES || scene == Scene.TWENTY_PROMISES;
        return isMany && parameter.exception.equals(INDEX) ? call(-1, 20, LEAST, MOST) : parameter.wrong;
    }

    private void dueFirst(Face face, Scene scene, int[] arguments, String exception) {
        quote("EXCEPTIONS", "If several exceptions apply, the one that comes first in the method's list of exceptions is "
                + "thrown.");
        dueAnswer(face, scene, arguments, exception);
    }

    private static int[] with(int[] arguments, int index, int value) {
        int[] other = arguments.clone();
        other[index] = value;
        return other;
    }

    private static String text(Face face, int[] arguments) {
        return face.name + java.util.Arrays.toString(arguments);
    }

    private static String answer(PromiseMarket market, Face face, int[] arguments) {
        try {
            for (Method method : PromiseMarket.class.getMethods()) {
                if (method.getName().equals(face.name) && method.getDeclaringClass() == PromiseMarket.class) {
                    return String.valueOf(method.invoke(market, java.util.Arrays.stream(arguments).boxed().toArray()));
                }
            }
            return "no such method";
        } catch (InvocationTargetException e) {
            return "throws " + e.getCause().getClass().getSimpleName();
        } catch (IllegalAccessException e) {
            throw new AssertionError(e);
        }
    }
}
