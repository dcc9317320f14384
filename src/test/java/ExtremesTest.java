import java.lang.reflect.InvocationTargetException;
import java.lang.reflect.Method;
import java.lang.reflect.Modifier;
import java.util.Arrays;

/** No call throws: every call, of all ways to choose its numbers among small ones, great ones and the farthest off. */
public final class ExtremesTest {
    private static final int[] NUMBERS = {Integer.MIN_VALUE, -1, 0, 1, 2, 4, 20, 60, Integer.MAX_VALUE};

    private ExtremesTest() {
    }

    public static void main(String[] args) throws IllegalAccessException {
        Edges.Maker[] makers = {RockingRiders::new, Edges::bare, Edges::rich, Edges::full, Edges::five};
        for (Method m : RockingRiders.class.getDeclaredMethods()) {
            if (Modifier.isPublic(m.getModifiers())) {
                for (Edges.Maker maker : makers) {
                    calls(m, maker.made());
                }
            }
        }
        Checks.end();
    }

    /** One object for all calls of a method, so that it is called in many a state, also behind the 512th call. */
    private static void calls(Method m, RockingRiders x) throws IllegalAccessException {
        Object[] numbers = new Object[m.getParameterCount()];
        int ways = (int) Math.pow(NUMBERS.length, numbers.length);
        for (int way = 0; way < ways; way++) {
            int rest = way;
            for (int j = 0; j < numbers.length; j++) {
                numbers[j] = NUMBERS[rest % NUMBERS.length];
                rest /= NUMBERS.length;
            }
            try {
                m.invoke(x, numbers);
            } catch (InvocationTargetException e) {
                Checks.holds(m.getName() + Arrays.toString(numbers) + " threw " + e.getCause(), false);
            }
        }
        Checks.holds(m.getName() + " was called", ways > 0);
    }
}
