import java.lang.reflect.Constructor;
import java.lang.reflect.Field;
import java.lang.reflect.Method;
import java.lang.reflect.Modifier;
import java.util.ArrayList;
import java.util.Arrays;
import java.util.List;
import java.util.TreeSet;

/** The class as it must be seen from outside, and nothing more of it. */
public final class FaceTest {
    private static final String STATE = "IllegalStateException";
    private static final String ARGUMENT = "IllegalArgumentException";
    private static final String INDEX = "IndexOutOfBoundsException";

    private static final List<String> FACE = List.of(
            face("int", "addProcess", 3, ARGUMENT, STATE),
            face("int", "setBid", 2, INDEX, ARGUMENT),
            face("void", "setArrival", 3, INDEX, ARGUMENT),
            face("int", "addWork", 2, INDEX, ARGUMENT),
            face("int", "pay", 2, INDEX, ARGUMENT),
            face("int", "process", 2, INDEX, ARGUMENT),
            face("int", "promise", 4, INDEX, ARGUMENT, STATE),
            face("boolean", "canAccept", 3, ARGUMENT),
            face("int", "greatestBudget", 2, ARGUMENT),
            face("int", "waitFor", 3, ARGUMENT),
            face("int", "end", 1, INDEX, STATE),
            face("int", "split", 2, INDEX, ARGUMENT, STATE),
            face("int", "told", 2, INDEX, ARGUMENT),
            face("int", "demand", 1, ARGUMENT),
            face("int", "tightest", 0),
            face("boolean", "isBounded", 3, ARGUMENT),
            face("double", "load", 0),
            face("int", "spare", 0),
            face("int", "ask", 2, INDEX, ARGUMENT, STATE),
            face("int", "buy", 2, INDEX, STATE),
            face("int", "buyCheapest", 1, INDEX),
            face("int", "lease", 4, INDEX, ARGUMENT, STATE),
            face("int", "sales", 2, INDEX),
            face("int", "partners", 0),
            face("float", "meanPrice", 0),
            face("void", "setRules", 2, ARGUMENT),
            face("int", "count", 1, ARGUMENT),
            face("long", "bank", 0),
            face("int", "run", 1, ARGUMENT),
            face("int", "ticksToFinish", 2, INDEX, ARGUMENT),
            face("int", "moneyAfter", 2, INDEX, ARGUMENT),
            face("int", "bestBid", 2, INDEX, ARGUMENT),
            face("int", "appendText", 1, STATE),
            face("int", "truncateText", 1, ARGUMENT),
            face("int", "read", 0),
            face("int", "errorCode", 0),
            face("int", "errorPosition", 0),
            face("void", "save", 1, ARGUMENT),
            face("void", "restore", 1, ARGUMENT, STATE));

    private static String face(String result, String name, int ints, String... exceptions) {
        String[] parameters = new String[ints];
        Arrays.fill(parameters, "int");
        return result + " " + name + Arrays.toString(parameters) + Arrays.toString(exceptions);
    }

    private static String face(Method method) {
        List<String> exceptions = new ArrayList<>();
        for (Class<?> exception : method.getExceptionTypes()) {
            exceptions.add(exception.getSimpleName());
        }
        return face(method.getReturnType().getSimpleName(), method.getName(), method.getParameterCount(),
                exceptions.toArray(new String[0]));
    }

    public static void main(String[] args) throws ReflectiveOperationException {
        Check check = new Check();
        Class<?> type = PromiseMarket.class;
        check.due("public and final", Modifier.toString(type.getModifiers()), "public final");
        check.due("NONE", PromiseMarket.NONE, -1);

        TreeSet<String> publicMethods = new TreeSet<>();
        TreeSet<String> publicNames = new TreeSet<>();
        for (Method method : type.getDeclaredMethods()) {
            if (Modifier.isPublic(method.getModifiers())) {
                publicMethods.add(face(method));
                publicNames.add(method.getName());
            }
        }
        check.due("public methods", publicMethods, new TreeSet<>(FACE));
        for (Method method : type.getDeclaredMethods()) {
            if (!method.isSynthetic() && !Modifier.isPublic(method.getModifiers())) {
                check.due(method + " is private", Modifier.isPrivate(method.getModifiers()), true);
                check.due(method + " has a public one's name", publicNames.contains(method.getName()), false);
            }
        }
        for (Field field : type.getDeclaredFields()) {
            String want = field.getName().equals("NONE") ? "public" : "private";
            check.due(field.toString(), Modifier.toString(field.getModifiers()).split(" ")[0], want);
        }
        List<String> constructors = new ArrayList<>();
        for (Constructor<?> constructor : type.getDeclaredConstructors()) {
            constructors.add(constructor.toString());
        }
        check.due("constructors", constructors, List.of("public PromiseMarket()"));
        check.due("classes in the file", type.getDeclaredClasses().length + 1 <= 12, true);
        for (Class<?> inside : type.getDeclaredClasses()) {
            classInside(check, inside, publicNames);
        }
        check.end();
    }

    /** Rules 1, 2, 5 and 11 of LANGUAGE.md, as far as they can be seen from outside. */
    private static void classInside(Check check, Class<?> inside, TreeSet<String> publicNames) {
        String name = inside.getSimpleName();
        int modifiers = inside.getModifiers();
        check.due(name + " is not seen", Modifier.isPublic(modifiers) || Modifier.isProtected(modifiers), false);
        check.due(name + " is static", Modifier.isStatic(modifiers), true);
        int fields = 0;
        for (Field field : inside.getDeclaredFields()) {
            boolean isStatic = Modifier.isStatic(field.getModifiers());
            fields += isStatic ? 0 : 1;
            check.due(field + " is final if static", !isStatic || Modifier.isFinal(field.getModifiers()), true);
        }
        check.due(name + " has some twenty fields at most", fields <= 20, true);
        for (Method method : inside.getDeclaredMethods()) {
            check.due(method + " takes at most seven", method.getParameterCount() <= 7, true);
            check.due(method + " is private with a public one's name",
                    Modifier.isPrivate(method.getModifiers()) && publicNames.contains(method.getName()), false);
        }
    }
}
