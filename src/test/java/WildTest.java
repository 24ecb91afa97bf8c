import java.lang.reflect.InvocationTargetException;
import java.lang.reflect.Method;
import java.lang.reflect.Modifier;
import java.util.ArrayList;
import java.util.Arrays;
import java.util.Comparator;
import java.util.List;
import java.util.Random;

/** Calls with numbers from everywhere, most of them refused: no call throws, and each answers as the Model does. */
final class WildTest {
    private static final int RUNS = 400, CALLS = 512;
    private static final int[] EDGES = {Integer.MIN_VALUE, Integer.MIN_VALUE + 1, -1000, -129, -13, -9, -5, -4, -3, -2,
        -1, 5, 6, 7, 8, 9, 10, 11, 12, 13, 14, 15, 16, 20, 39, 40, 41, 49, 50, 60, 61, 99, 100, 101, 132, 200, 201, 400,
        401, 599, 600, 999, 1000, 1232, 1300, 9999, 10000, 32768, 99999, Integer.MAX_VALUE - 2, Integer.MAX_VALUE - 1,
        Integer.MAX_VALUE};
    private static final String[] TEXTS = {"rank 3 if form=0;", "cut 30;", "bar if sum>500;", "take 9 of salt;",
        "spare 20;", "rank 1", "((", "if", "999", ";", " ", "rank 2 if not salt or owed>0;", "bar if since<2 and house=1;"};

    private final Random random;
    private final DebtCouncil x = new DebtCouncil();
    private final Model m = new Model();
    private final StringBuilder run = new StringBuilder();

    private WildTest(long seed) {
        random = new Random(seed);
    }

    public static void main(String[] args) {
        Method[] calls = publicCalls();
        for (long seed = 1; seed <= RUNS; seed++) {
            WildTest test = new WildTest(seed);
            for (int i = 0; i < CALLS; i++) {
                if (!test.goesWell(calls)) {
                    System.out.println("seed " + seed + ", call " + i + ":" + test.run);
                    System.exit(1);
                }
            }
        }
        System.out.println(RUNS * CALLS + " wild calls answered as the model answers");
    }

    /** By their names: which call a seed takes must not hang on the order in which the machine lists them. */
    private static Method[] publicCalls() {
        List<Method> calls = new ArrayList<>();
        for (Method call : DebtCouncil.class.getDeclaredMethods()) {
            if (Modifier.isPublic(call.getModifiers())) {
                calls.add(call);
            }
        }
        calls.sort(Comparator.comparing(Method::getName));
        return calls.toArray(new Method[0]);
    }

    private boolean goesWell(Method[] calls) {
        Method call = calls[random.nextInt(calls.length)];
        Class<?>[] types = call.getParameterTypes();
        Object[] given = new Object[types.length];
        for (int i = 0; i < given.length; i++) {
            given[i] = types[i] == long.class ? (Object) eight() : (Object) number();
        }
        int due = answer(m, call, given);
        int got = answer(x, call, given);
        run.append("\n  ").append(call.getName()).append(Arrays.toString(given)).append(" answered ").append(got);
        if (got != due) {
            run.append(", the model ").append(due);
        }
        return got == due;
    }

    private static int answer(Object of, Method call, Object[] given) {
        try {
            Method own = of.getClass().getDeclaredMethod(call.getName(), call.getParameterTypes());
            return (Integer) own.invoke(of, given);
        } catch (InvocationTargetException e) {
            throw new IllegalStateException(call.getName() + Arrays.toString(given), e.getCause());
        } catch (ReflectiveOperationException e) {
            throw new IllegalStateException(e);
        }
    }

    private int number() {
        switch (random.nextInt(8)) {
            case 0: return EDGES[random.nextInt(EDGES.length)];
            case 1: return random.nextInt(16) - 1;
            case 2: return random.nextInt(16) == 0 ? random.nextInt() : random.nextInt(1000);
            case 3: return 100 * (1 + random.nextInt(12)) + 10 * random.nextInt(4) + random.nextInt(3);
            default: return random.nextInt(4);
        }
    }

    /** Mostly eight bytes from somewhere in a text, else any. */
    private long eight() {
        if (random.nextInt(4) == 0) {
            return random.nextLong();
        }
        String text = TEXTS[random.nextInt(TEXTS.length)];
        int from = random.nextInt(3) == 0 ? random.nextInt(text.length()) : 0;
        long eight = 0;
        for (int i = 0; i < 8; i++) {
            eight |= (long) (from + i < text.length() ? text.charAt(from + i) : ' ') << (8 * i);
        }
        return eight;
    }
}
