import java.lang.reflect.InvocationTargetException;
import java.lang.reflect.Method;
import java.lang.reflect.Modifier;
import java.util.ArrayList;
import java.util.Arrays;
import java.util.Comparator;
import java.util.List;
import java.util.Random;

/**
 * Calls with arguments from all over: nothing is thrown but what the method's throws clause names, to the very class,
 * so nothing that the machine throws; and a call that throws changes nothing.
 */
public final class WrongCallsTest {
    private static final int RUNS = 60;
    private static final int CALLS = 400;
    private static final int[] FAR = {
        Integer.MIN_VALUE, Integer.MIN_VALUE + 1, -1000000000, -215, -100, -2, -1, 100, 101, 215, 400, 600, 601, 999,
        1000, 214748364, 214748365, 1000000000, Integer.MAX_VALUE - 1, Integer.MAX_VALUE
    };

    private WrongCallsTest() { }

    public static void main(String[] args) {
        List<Method> methods = new ArrayList<>();
        for (Method method : CopperDispatch.class.getDeclaredMethods()) {
            if (Modifier.isPublic(method.getModifiers())) {
                methods.add(method);
            }
        }
        methods.sort(Comparator.comparing(Method::getName));
        int thrown = 0;
        for (int seed = 0; seed < RUNS; seed++) {
            thrown += run(methods, new Random(seed));
        }
        System.out.println(thrown + " calls threw as they should");
        if (thrown == 0) {
            System.exit(1);
        }
    }

    private static int run(List<Method> methods, Random random) {
        CopperDispatch g = new CopperDispatch();
        int thrown = 0;
        String before = Picture.of(g);
        for (int k = 0; k < CALLS; k++) {
            Method method = methods.get(random.nextInt(methods.size()));
            Object[] arguments = new Object[method.getParameterCount()];
            for (int a = 0; a < arguments.length; a++) {
                arguments[a] = method.getParameterTypes()[a] == boolean.class ? random.nextBoolean() : some(random);
            }
            Throwable exception = call(g, method, arguments);
            String after = Picture.of(g);
            if (exception != null) {
                thrown++;
                boolean isNamed = Arrays.asList(method.getExceptionTypes()).contains(exception.getClass());
                if (!isNamed || !before.equals(after)) {
                    System.out.println(method.getName() + Arrays.toString(arguments) + " threw " + exception
                        + (isNamed ? " and changed something" : ""));
                    System.exit(1);
                }
            }
            before = after;
        }
        return thrown;
    }

    private static Object some(Random random) {
        int kind = random.nextInt(8);
        return kind == 0 ? FAR[random.nextInt(FAR.length)] : kind < 6 ? random.nextInt(4) : random.nextInt(62);
    }

    private static Throwable call(CopperDispatch g, Method method, Object[] arguments) {
        try {
            method.invoke(g, arguments);
            return null;
        } catch (InvocationTargetException e) {
            return e.getCause();
        } catch (IllegalAccessException e) {
            throw new AssertionError(e);
        }
    }
}
