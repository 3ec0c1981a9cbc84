import java.lang.reflect.InvocationTargetException;
import java.lang.reflect.Method;

/** What the tests share: answers compared, objects to begin with, and ends of a test. */
final class Checks {
    private static final int MOST_SHOWN = 40;
    private int seen;
    private int wrong;

    /** An answer, and the one that is due. */
    void due(String call, long got, long want) {
        seen++;
        if (got != want) {
            wrong++;
            if (wrong <= MOST_SHOWN) {
                System.out.println(call + " answered " + got + ", due is " + want);
            }
        }
    }

    void due(String call, boolean holds) {
        due(call, holds ? 1 : 0, 1);
    }

    int wrong() {
        return wrong;
    }

    /** Ends the program: with exit code 1 if an answer was wrong. */
    void end(String test) {
        System.out.println(test + ": " + seen + " answers, " + wrong + " of them wrong");
        System.exit(wrong == 0 && seen > 0 ? 0 : 1);
    }

    /** Runs every method of a test whose name begins so, each by itself; one that throws has failed. */
    void runAll(Class<?> test, String begin) throws IllegalAccessException {
        int ran = 0;
        for (Method method : test.getDeclaredMethods()) {
            if (!method.getName().startsWith(begin) || method.getParameterCount() != 0) {
                continue;
            }
            method.setAccessible(true);
            ran++;
            int before = seen;
            try {
                method.invoke(null);
            } catch (InvocationTargetException thrown) {
                thrown.getCause().printStackTrace(System.out);
                due(method.getName() + " throws", false);
            }
            due(method.getName() + " looks at something", seen > before);
        }
        due(test.getName() + " has tests", ran > 0);
    }

    /** Feeds a whole text. */
    static void feed(AskedIn x, String text) {
        for (int i = 0; i < text.length(); i++) {
            x.feed(text.charAt(i));
        }
    }

    /** Feeds a whole text and makes it a town. */
    static int town(AskedIn x, String text) {
        feed(x, text);
        return x.town();
    }

    /** A new object with houses of these kinds, all of v 0 and without grain. */
    static AskedIn houses(int... kinds) {
        AskedIn x = new AskedIn();
        for (int kind : kinds) {
            x.house(kind, 0, 0);
        }
        return x;
    }
}
