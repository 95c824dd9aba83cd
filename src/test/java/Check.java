import java.lang.reflect.InvocationTargetException;
import java.lang.reflect.Method;
import java.util.List;
import java.util.TreeMap;
import java.util.function.Supplier;

/** Runs tests, counts and prints the answers that are not as due. */
final class Check {
    interface Call {
        long answer();
    }

    interface CallOn {
        long answer(BoxVault vault);
    }

    private final String about;
    private String test = "";
    private int made = 0;
    private int wrong = 0;

    Check(String about) {
        this.about = about;
    }

    static long bit(boolean is) {
        return is ? 1 : 0;
    }

    /** What a call comes to, as a text: its answer, or the name of the very class that it throws. */
    static String outcome(Call call) {
        try {
            return Long.toString(call.answer());
        } catch (RuntimeException e) {
            return e.getClass().getSimpleName();
        }
    }

    /** Runs the methods of a class that take and answer nothing: so none is forgotten in a list. */
    void runAll(Class<?> tests) {
        TreeMap<String, Method> byName = new TreeMap<>();
        for (Method method : tests.getDeclaredMethods()) {
            if (method.getParameterCount() == 0 && method.getReturnType() == void.class && !method.isSynthetic()) {
                byName.put(method.getName(), method);
            }
        }
        for (Method method : byName.values()) {
            run(method);
        }
        end();
    }

    private void run(Method method) {
        test = ", " + method.getName();
        made = 0;
        try {
            method.invoke(null);
        } catch (InvocationTargetException e) {
            same("the test itself", "no exception", e.getCause().toString());
        } catch (IllegalAccessException e) {
            same("the test itself", "a method that can be reached", e.toString());
        }
        same("the test checks something", "true", Boolean.toString(made > 0));
    }

    void due(String what, long want, Call call) {
        same(what, Long.toString(want), outcome(call));
    }

    void badArgument(String what, Call call) {
        same(what, "IllegalArgumentException", outcome(call));
    }

    void badState(String what, Call call) {
        same(what, "IllegalStateException", outcome(call));
    }

    void badIndex(String what, Call call) {
        same(what, "IndexOutOfBoundsException", outcome(call));
    }

    void refusesArgument(String what, Supplier<BoxVault> start, CallOn call) {
        changesNothing(what, "IllegalArgumentException", start, call);
    }

    void refusesState(String what, Supplier<BoxVault> start, CallOn call) {
        changesNothing(what, "IllegalStateException", start, call);
    }

    void refusesIndex(String what, Supplier<BoxVault> start, CallOn call) {
        changesNothing(what, "IndexOutOfBoundsException", start, call);
    }

    /** The call comes to what is due, and the vault tells the same then as one on which it was not made. */
    void changesNothing(String what, String want, Supplier<BoxVault> start, CallOn call) {
        for (int way = 0; way < Told.WAYS; way++) {
            BoxVault called = start.get();
            same(what, want, outcome(() -> call.answer(called)));
            sameTold(what + " changes nothing", Told.by(way, start.get()), Told.by(way, called));
        }
    }

    private void sameTold(String what, List<String> want, List<String> got) {
        same(what + ": answers", "" + want.size(), "" + got.size());
        for (int i = 0; i < want.size() && i < got.size(); i++) {
            same(what, want.get(i), got.get(i));
        }
    }

    void same(String what, String want, String got) {
        made++;
        if (!want.equals(got)) {
            wrong++;
            System.out.println(about + test + ": " + what + " came to " + got + ", due is " + want);
        }
    }

    void end() {
        System.out.println(wrong == 0 ? "all as due" : wrong + " not as due");
        if (wrong != 0) {
            System.exit(1);
        }
    }
}
