import java.lang.reflect.InvocationTargetException;
import java.lang.reflect.Method;
import java.lang.reflect.Modifier;
import java.util.Arrays;
import java.util.Comparator;

/** Compares answers with those that are due, tells those that differ, and ends the test. */
final class Due {
    private static final int MOST_TOLD = 100;

    private int wrong;
    private int seen;
    private String where = "";

    void is(String call, long got, long want) {
        seen++;
        if (got != want) {
            tell(call + " answered " + got + ", due is " + want);
        }
    }

    void is(String call, boolean got, boolean want) {
        is(call, got ? 1L : 0L, want ? 1L : 0L);
    }

    void yes(String call, boolean got) {
        is(call, got, true);
    }

    void no(String call, boolean got) {
        is(call, got, false);
    }

    void none(String call, long got) {
        is(call, got, -1L);
    }

    int wrongSoFar() {
        return wrong;
    }

    /** Runs every method of a test that takes and answers nothing, so that none can be forgotten. */
    void runAll(Object test) {
        Method[] all = test.getClass().getDeclaredMethods();
        Arrays.sort(all, Comparator.comparing(Method::getName));
        for (Method each : all) {
            boolean plain = each.getParameterCount() == 0 && each.getReturnType() == void.class;
            if (plain && !Modifier.isStatic(each.getModifiers()) && !each.isSynthetic()) {
                runOne(test, each);
            }
        }
        end();
    }

    private void runOne(Object test, Method each) {
        where = each.getName() + ": ";
        int before = seen;
        try {
            each.setAccessible(true);
            each.invoke(test);
        } catch (IllegalAccessException | InvocationTargetException e) {
            throw new IllegalStateException(each.getName(), e);
        }
        if (seen == before) {
            tell("looked at nothing");
        }
    }

    private void tell(String what) {
        wrong++;
        if (wrong <= MOST_TOLD) {
            System.out.println(where + what);
        }
    }

    void end() {
        System.out.println(seen + " answers looked at, " + wrong + " not as due");
        if (wrong != 0 || seen == 0) {
            System.exit(1);
        }
    }
}
