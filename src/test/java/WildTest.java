import java.lang.reflect.InvocationTargetException;
import java.lang.reflect.Method;
import java.lang.reflect.Modifier;

/**
 * Every method of the face with every choice of small, edge and far numbers, on objects with nothing,
 * some and much told, against the model: no call throws, and all answers are alike.
 */
public final class WildTest {
    private static final Checks C = new Checks();
    /** An object is used for 512 calls at most: some to begin it, these then. */
    private static final int CALLS = 250;
    private static final int[][] INTS = {
        {},
        {Integer.MIN_VALUE, -100, -14, -3, -2, -1, 0, 1, 2, 3, 4, 5, 6, 7, 8, 9, 10, 11, 12, 13, 14, 15, 19, 20, 21, 22, 23, 24,
            25, 31, 32, 33, 59, 60, 61, 62, 63, 64, 99, 100, 101, 126, 127, 128, 255, 256, 1 << 30, Integer.MAX_VALUE},
        {Integer.MIN_VALUE, -6, -2, -1, 0, 1, 2, 3, 4, 5, 6, 7, 9, 10, 13, 14, 23, 24, 60, 61, 99, 100, Integer.MAX_VALUE},
        {Integer.MIN_VALUE, -2, -1, 0, 1, 2, 3, 4, 5, 6, 9, 10, 11, 14, 15, 60, 61, 99, 100, Integer.MAX_VALUE},
        {Integer.MIN_VALUE, -1, 0, 1, 2, 3, 5, 6, Integer.MAX_VALUE},
        {Integer.MIN_VALUE, -1, 0, 1, 3, 5, 6, Integer.MAX_VALUE},
    };
    private static final long[] LONGS = {Long.MIN_VALUE, -129, -1, 0, 1, 200, 70000, 1L << 40, Long.MAX_VALUE};

    private final Method onClass;
    private final Method onModel;
    private final int begun;
    private AskedIn x;
    private Model m;
    private int calls = CALLS;

    private WildTest(Method method, int begun) throws NoSuchMethodException {
        onClass = method;
        onModel = Model.class.getDeclaredMethod(method.getName(), method.getParameterTypes());
        this.begun = begun;
    }

    public static void main(String[] args) throws ReflectiveOperationException {
        for (Method method : AskedIn.class.getDeclaredMethods()) {
            if (!Modifier.isPublic(method.getModifiers())) {
                continue;
            }
            for (int begun = 0; begun < 3; begun++) {
                new WildTest(method, begun).fill(new Object[method.getParameterCount()], 0);
            }
        }
        C.end("WildTest");
    }

    /** Every choice for the parameters from a place on. */
    private void fill(Object[] with, int place) throws ReflectiveOperationException {
        if (place == with.length) {
            compare(with);
            return;
        }
        Class<?> type = onClass.getParameterTypes()[place];
        if (type == boolean.class) {
            with[place] = false;
            fill(with, place + 1);
            with[place] = true;
            fill(with, place + 1);
        } else if (type == long.class) {
            for (long v : LONGS) {
                with[place] = v;
                fill(with, place + 1);
            }
        } else {
            for (int v : INTS[with.length]) {
                with[place] = v;
                fill(with, place + 1);
            }
        }
    }

    private void compare(Object[] with) throws ReflectiveOperationException {
        if (calls >= CALLS) {
            x = new AskedIn();
            m = new Model();
            begin();
            calls = 0;
        }
        calls++;
        StringBuilder call = new StringBuilder(onClass.getName() + "(");
        for (Object each : with) {
            call.append(each).append(", ");
        }
        try {
            long got = ((Number) onClass.invoke(x, with)).longValue();
            long want = ((Number) onModel.invoke(m, with)).longValue();
            C.due(call + "begun " + begun + ")", got, want);
        } catch (InvocationTargetException thrown) {
            C.due(call + "begun " + begun + ") throws " + thrown.getCause(), false);
        }
    }

    private void begin() {
        if (begun == 0) {
            return;
        }
        int houses = begun == 1 ? 3 : 6;
        for (int house = 0; house < houses; house++) {
            x.house((house * 3 + 1) % 7, house, house * 7);
            m.house((house * 3 + 1) % 7, house, house * 7);
        }
        for (int one = 0; one < houses - 1; one++) {
            x.folk(houses - 1 - one, 3 * one, 1 + 2 * one);
            m.folk(houses - 1 - one, 3 * one, 1 + 2 * one);
        }
        String text = "count 3 h>1;count 6 c<4;walk 2 f<3&!k=6;dawn 70";
        for (int i = 0; i < text.length(); i++) {
            x.feed(text.charAt(i));
            m.feed(text.charAt(i));
        }
        x.town();
        m.town();
        for (int i = 0; i < houses; i++) {
            x.ask(i, i % 2, i > 2);
            m.ask(i, i % 2, i > 2);
            x.way(i);
            m.way(i);
            x.watch(i, i < 2);
            m.watch(i, i < 2);
            x.book(i % 2, i);
            m.book(i % 2, i);
            x.tape(i, i - 1, 10 * houses);
            m.tape(i, i - 1, 10 * houses);
        }
        x.image();
        m.image();
        x.act(1, 2, 3);
        m.act(1, 2, 3);
    }
}
