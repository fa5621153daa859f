import java.lang.reflect.InvocationTargetException;
import java.lang.reflect.Method;
import java.lang.reflect.Modifier;
import java.util.ArrayList;
import java.util.Comparator;
import java.util.List;

/** No call throws, whatever the numbers that it is given and the state that it finds. */
public final class AnyInputTest {
    private static final int[] ODD = {Integer.MIN_VALUE, Integer.MIN_VALUE + 1, -1000000, -100, -3, -2, -1, 10, 11, 20, 21, 25, 26, 99,
        100, 101, 299, 300, 301, 999, 1000, 9999, 10000, 1 << 30, Integer.MAX_VALUE - 1, Integer.MAX_VALUE};

    public static void main(String[] args) throws Exception {
        List<Method> calls = new ArrayList<>();
        for (Method m : GooseLetters.class.getDeclaredMethods()) {
            if (Modifier.isPublic(m.getModifiers())) {
                calls.add(m);
            }
        }
        calls.sort(Comparator.comparing(Method::getName));
        for (int seed = 0; seed < 300; seed++) {
            run(calls, new Dice(seed));
        }
        Check.finish();
    }

    private static void run(List<Method> calls, Dice dice) throws IllegalAccessException {
        GooseLetters x = new GooseLetters();
        for (int i = 0; i < 512; i++) {
            if (dice.below(40) == 0) {
                x.end(0);
                Check.text(x, new TextMaker(dice).text());
            }
            Method m = calls.get(dice.below(calls.size()));
            Object[] given = new Object[m.getParameterCount()];
            for (int k = 0; k < given.length; k++) {
                boolean yes = m.getParameterTypes()[k] == boolean.class;
                given[k] = yes ? (Object) (dice.below(2) == 0) : (Object) number(dice);
            }
            try {
                m.invoke(x, given);
            } catch (InvocationTargetException e) {
                e.getCause().printStackTrace();
                Check.due(m + " throws", 1, 0);
            }
        }
    }

    private static int number(Dice dice) {
        return dice.below(5) == 0 ? ODD[dice.below(ODD.length)] : dice.below(10);
    }
}
