import java.lang.reflect.InvocationTargetException;
import java.lang.reflect.Method;
import java.util.ArrayList;
import java.util.Arrays;
import java.util.HashMap;
import java.util.List;
import java.util.Map;
import java.util.Random;

/** Holds CopperDispatch against PlainGrid over random runs of calls, wrong ones among them. */
public final class RandomTest {
    private static final int RUNS = 500;
    private static final int CALLS = 512;

    /** What a call takes, by letters; the letters are told in argument(). */
    private static final String[] SETUP = {
        "line:nnlL", "plant:nmMsb", "feeder:nd", "wheel:n", "store:nrRo"
    };
    private static final String[] DEEDS = {
        "switchLine:ib", "storm:i", "permit:cih", "giveBack:c", "start:p", "stop:p", "offer:pea", "withdraw:p",
        "clear:D", "reserve:poae", "setDemand:fd", "wind:wbd", "breakMeter:fb", "correct:fHg", "pass:t"
    };
    private static final String[] QUESTIONS = {
        "stateOf:i", "heat:i", "flow:i", "flowAnew:i", "island:n", "price:n", "plantState:p", "base:p", "missing:",
        "scheduled:p", "left:po", "isShed:f", "level:S", "amount:kx", "minute:", "reading:fH", "bill:kxH", "open:H"
    };
    private static final int[] WEIGHTS = {3, 2, 3, 3, 8, 1, 5, 1, 4, 6, 6, 6, 3, 3, 9};

    private static final Map<String, Method> REAL = methods(CopperDispatch.class);
    private static final Map<String, Method> PLAIN = methods(PlainGrid.class);

    private final Random random;
    private final CopperDispatch real = new CopperDispatch();
    private final PlainGrid plain = new PlainGrid();
    private final List<String> told = new ArrayList<>();
    private final boolean isCalm;

    private RandomTest(long seed) {
        random = new Random(seed);
        isCalm = seed % 2 == 0;
    }

    public static void main(String[] args) {
        long first = args.length > 0 ? Long.parseLong(args[0]) : 0;
        int runs = args.length > 1 ? Integer.parseInt(args[1]) : RUNS;
        for (long seed = first; seed < first + runs; seed++) {
            RandomTest test = new RandomTest(seed);
            String wrong = test.run();
            if (wrong != null) {
                System.out.println("seed " + seed + ": " + wrong);
                test.told.forEach(call -> System.out.println("    " + call));
                System.exit(1);
            }
        }
        System.out.println(runs + " random runs agree");
    }

    private static Map<String, Method> methods(Class<?> of) {
        Map<String, Method> all = new HashMap<>();
        for (Method method : of.getDeclaredMethods()) {
            if (java.lang.reflect.Modifier.isPublic(method.getModifiers())) {
                method.setAccessible(true);
                all.put(method.getName(), method);
            }
        }
        return all;
    }

    private String run() {
        int setups = 12 + random.nextInt(28);
        for (int k = 0; k < setups; k++) {
            String wrong = call(SETUP[random.nextInt(SETUP.length)]);
            if (wrong != null) {
                return wrong;
            }
        }
        for (int k = setups; k < CALLS; k++) {
            String wrong = call(next());
            if (wrong == null && random.nextInt(8) == 0) {
                wrong = compareAll();
            }
            if (wrong != null) {
                return wrong;
            }
        }
        return compareAll();
    }

    private String next() {
        int kind = random.nextInt(100);
        if (kind < 3) {
            return SETUP[random.nextInt(SETUP.length)];
        }
        if (kind < 25) {
            return QUESTIONS[random.nextInt(QUESTIONS.length)];
        }
        int sum = Arrays.stream(WEIGHTS).sum();
        int at = random.nextInt(sum);
        int k = 0;
        while (at >= WEIGHTS[k]) {
            at -= WEIGHTS[k++];
        }
        return DEEDS[k];
    }

    private Object argument(char letter) {
        boolean wild = random.nextInt(isCalm ? 400 : 40) == 0;
        switch (letter) {
            case 'b': return random.nextInt(3) > 0;
            case 'n': return wild ? some(-2, 9) : random.nextInt(isCalm ? 5 : 8);
            case 'l': return wild ? some(-1, 11) : some(1, isCalm ? 2 : 9);
            case 'L': return wild ? some(-1, 101) : some(1, isCalm ? 40 : 99);
            case 'm': return wild ? some(-1, 52) : some(0, random.nextInt(3) == 0 ? 50 : 8);
            case 'M': return wild ? some(-1, 101) : some(random.nextInt(6) == 0 ? 1 : 50, 99);
            case 's': return wild ? some(-1, 32) : some(0, random.nextInt(3) == 0 ? 30 : 2);
            case 'd': return wild ? some(-2, 62) : some(0, random.nextInt(3) == 0 ? 60 : 15);
            case 'r': return wild ? some(-1, 1001) : some(1, random.nextInt(2) == 0 ? 12 : 200);
            case 'R': return wild ? some(-1, 52) : some(1, random.nextInt(2) == 0 ? 5 : 50);
            case 'o': return wild ? some(-1, 52) : some(0, 1);
            case 'i': return some(wild ? -1 : 0, size(plain.wires.size()));
            case 'p': return some(wild ? -1 : 0, size(plain.generators.size()));
            case 'f': return some(wild ? -1 : 0, size(plain.customers.size()));
            case 'w': return some(wild ? -1 : 0, size(plain.mills.size()));
            case 'S': return some(wild ? -1 : 0, size(plain.tanks.size()));
            case 'c': return wild ? some(-1, 3) : some(0, 1);
            case 'h': return wild ? some(-1, 62) : some(1, 7);
            case 'e': return wild ? some(-2, 1002) : some(0, random.nextInt(2) == 0 ? 9 : 999);
            case 'a': return wild ? some(-1, 101) : some(1, random.nextInt(2) == 0 ? 9 : 40);
            case 'D': return wild ? some(-2, 1002) : some(0, random.nextInt(3) == 0 ? 400 : 120);
            case 'g': return wild ? some(-2, 602) : some(0, 600);
            case 't': return wild ? some(-1, 101) : some(1, random.nextInt(5) == 0 ? 12 : 2);
            case 'k': return wild ? some(-1, 5) : some(0, 3);
            case 'x': return some(wild ? -1 : 0, 10);
            case 'H': return some(wild ? -1 : 0, (plain.minute() + 9) / 10);
            default: throw new AssertionError(letter);
        }
    }

    /** One beyond the greatest number now and then. */
    private int size(int count) {
        return random.nextInt(30) == 0 ? count : Math.max(0, count - 1);
    }

    private int some(int low, int high) {
        return low + random.nextInt(high - low + 1);
    }

    private String call(String form) {
        String name = form.substring(0, form.indexOf(':'));
        String letters = form.substring(form.indexOf(':') + 1);
        Object[] arguments = new Object[letters.length()];
        for (int k = 0; k < arguments.length; k++) {
            arguments[k] = argument(letters.charAt(k));
        }
        return compare(name, arguments);
    }

    private String compare(String name, Object... arguments) {
        Object is = answer(REAL.get(name), real, arguments);
        Object due = answer(PLAIN.get(name), plain, arguments);
        told.add(name + Arrays.toString(arguments) + " -> " + is);
        return is.equals(due) ? null : "answered " + is + ", due is " + due;
    }

    private static Object answer(Method method, Object on, Object... arguments) {
        try {
            return method.invoke(on, arguments);
        } catch (InvocationTargetException e) {
            return "throws " + e.getCause().getClass().getName();
        } catch (IllegalAccessException e) {
            throw new AssertionError(e);
        }
    }

    /** Asks everything of everything, beyond the 512 calls that a user may make. */
    private String compareAll() {
        int kept = told.size();
        List<Object[]> all = new ArrayList<>();
        for (int k = 0; k < 12; k++) {
            for (String name : List.of("stateOf", "heat", "flow", "flowAnew", "island", "price", "plantState", "base",
                "scheduled", "isShed", "level")) {
                all.add(new Object[] {name, k});
            }
            for (int of = 0; of < 4; of++) {
                all.add(new Object[] {"left", k, of});
                all.add(new Object[] {"amount", of, k});
                all.add(new Object[] {"bill", of, k, (plain.minute() - 1) / 10});
                all.add(new Object[] {"bill", of, k, (plain.minute() - 1) / 10 - 1});
            }
            all.add(new Object[] {"reading", k, (plain.minute() - 1) / 10});
        }
        all.add(new Object[] {"open", (plain.minute() - 1) / 10});
        all.add(new Object[] {"missing"});
        all.add(new Object[] {"minute"});
        for (Object[] one : all) {
            String wrong = compare((String) one[0], Arrays.copyOfRange(one, 1, one.length));
            if (wrong != null) {
                String last = told.get(told.size() - 1);
                told.subList(kept, told.size()).clear();
                told.add(last);
                return wrong;
            }
        }
        told.subList(kept, told.size()).clear();
        return null;
    }
}
