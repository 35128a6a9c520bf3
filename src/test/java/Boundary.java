import java.lang.reflect.InvocationTargetException;
import java.lang.reflect.Method;
import java.util.ArrayList;
import java.util.Arrays;
import java.util.Comparator;
import java.util.List;
import java.util.function.Supplier;
import java.util.function.ToDoubleFunction;

/** Runs tests that say which sentence they are for, and checks that refused calls do nothing. */
final class Boundary {
    static final Class<IndexOutOfBoundsException> INDEX = IndexOutOfBoundsException.class;
    static final Class<IllegalArgumentException> ARGUMENT = IllegalArgumentException.class;
    static final Class<IllegalStateException> STATE = IllegalStateException.class;

    private Boundary() {
    }

    /** Runs each method of a class that says what it is for. */
    static void runAll(Class<?> tests) {
        for (Method test : testsOf(tests)) {
            int before = Check.made();
            Check.about(subject(test));
            Check.same("the test", ending(test), "ended");
            Check.holds("it checks something", Check.made() > before + 1);
        }
        Check.about("");
        Check.finish(tests.getName());
    }

    static List<Method> testsOf(Class<?> tests) {
        List<Method> found = new ArrayList<>();
        for (Method method : tests.getDeclaredMethods()) {
            if (method.isAnnotationPresent(Says.class)) {
                found.add(method);
            }
        }
        found.sort(Comparator.comparing(Method::getName));
        return found;
    }

    /** Checks that a call on a store made by a script is refused and changes nothing. */
    static void refused(String script, String call, Class<? extends RuntimeException> due,
            ToDoubleFunction<ShardRebalancer> act) {
        refused(() -> Stores.after(script), call, due, act);
    }

    /** Checks that a call is refused with just this exception, and that it changes nothing. */
    static void refused(Supplier<ShardRebalancer> recipe, String call,
            Class<? extends RuntimeException> due, ToDoubleFunction<ShardRebalancer> act) {
        ShardRebalancer x = recipe.get();
        Check.refused(call, due, () -> act.applyAsDouble(x));
        unchanged(recipe, call, act);
    }

    /** Checks that a call changes nothing, whatever it answers or throws. */
    static void unchanged(Supplier<ShardRebalancer> recipe, String call,
            ToDoubleFunction<ShardRebalancer> act) {
        Stores.same("the state after " + call, Stores.whole(() -> {
            ShardRebalancer y = recipe.get();
            Check.outcome(() -> act.applyAsDouble(y));
            return y;
        }), Stores.whole(recipe));
    }

    private static String subject(Method test) {
        Says says = test.getAnnotation(Says.class);
        return test.getName() + ", promise " + Arrays.toString(says.promise()) + ", \""
                + String.join("\" \"", says.sentence()) + "\": ";
    }

    private static String ending(Method test) {
        try {
            test.invoke(null);
            return "ended";
        } catch (InvocationTargetException e) {
            return "threw " + e.getCause();
        } catch (IllegalAccessException e) {
            return "cannot be called";
        }
    }
}
