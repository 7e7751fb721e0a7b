import java.lang.reflect.Method;
import java.util.Arrays;
import java.util.Random;

/**
 * Random runs of 512 calls (the seeds are fixed): every answer is the plain model's, nothing throws, and an object
 * that was spared the refused calls answers the same, because a call that is refused changes nothing.
 */
public final class RandomRunsTest {
    private static final int RUNS = 3000;
    private static final int CALLS = 512;
    private static final String[] NAMES = {
        "customer", "wish", "quiet", "event", "promise", "tick", "sent", "works", "out", "failed", "correct", "join",
    };
    private static final Method[] OF_CLASS = methodsOf(CustomerNotices.class);
    private static final Method[] OF_MODEL = methodsOf(PlainModel.class);
    private static final long[] WILD = {
        Long.MIN_VALUE, Integer.MIN_VALUE, -1440, -13, -1, 0, 1, 4, 8, 9, 10, 15, 40, 41, 60, 61, 200, 201, 1439, 1440,
        1441, 9999, 10000, 1000000, 1000001, 1000000000, 1000000001, Integer.MAX_VALUE, 1L << 32, Long.MAX_VALUE,
    };

    public static void main(String[] args) throws ReflectiveOperationException {
        Check check = new Check();
        int[] refusals = new int[4];
        for (int run = 0; run < RUNS; run++) {
            oneRun(check, run, refusals);
        }
        for (int k = 0; k < refusals.length; k++) {
            check.due("refusals " + (-11 - k) + " were met", refusals[k] > 0, true);
        }
        check.end();
    }

    private static void oneRun(Check check, int run, int[] refusals) throws ReflectiveOperationException {
        Random random = new Random(run);
        CustomerNotices all = new CustomerNotices();
        CustomerNotices spared = new CustomerNotices();
        PlainModel model = new PlainModel();
        int customers = 1 + random.nextInt(run % 5 == 0 ? 42 : 4);
        int items = run % 3 == 0 ? 80 : 4;
        int wild = run % 4 == 0 ? 20 : 2;
        int ticks = 1 + random.nextInt(20);
        for (int k = 0; k < CALLS; k++) {
            int method = k < customers ? 0 : pick(random, ticks);
            long[] a = arguments(random, method, model, items, wild);
            long want = ask(OF_MODEL, model, method, a);
            long got = ask(OF_CLASS, all, method, a);
            String call = "run " + run + " call " + k + ": " + NAMES[method] + Arrays.toString(a);
            check.due(call, got, want);
            if (want <= -11) {
                refusals[(int) (-11 - want)]++;
            } else {
                check.due(call + ", spared the refused ones", ask(OF_CLASS, spared, method, a), want);
            }
        }
    }

    private static int pick(Random random, int ticks) {
        int n = random.nextInt(100);
        if (n < 1) return 0;
        if (n < 15) return 1;
        if (n < 18) return 2;
        if (n < 45) return 3;
        if (n < 60) return 4;
        if (n < 60 + ticks) return 5;
        return 6 + random.nextInt(NAMES.length - 6);
    }

    private static long[] arguments(Random r, int method, PlainModel m, int items, int wild) {
        long c = 1 + r.nextInt(Math.max(1, m.customers.size()));
        long t = m.clock + r.nextInt(60);
        long[] a = switch (method) {
            case 0 -> new long[] {r.nextInt(10), r.nextInt(27) - 12};
            case 1 -> new long[] {c, r.nextInt(8), r.nextInt(4), r.nextInt(10)};
            case 2 -> new long[] {c, r.nextInt(1440), r.nextInt(1440)};
            case 3 -> new long[] {c, 1 + r.nextInt(items), r.nextInt(8), t};
            case 4 -> new long[] {c, 1 + r.nextInt(items), r.nextInt(100), r.nextInt(40)};
            case 5 -> new long[] {m.clock + r.nextInt(r.nextInt(4) == 0 ? 800 : 40)};
            case 6 -> new long[] {r.nextInt(m.sent.size() + 2) - 1, r.nextInt(9)};
            case 7 -> new long[] {r.nextInt(4), r.nextInt(3)};
            case 8 -> new long[] {c, r.nextInt(8)};
            case 9 -> new long[] {r.nextInt(m.failed.size() + 2) - 1};
            case 10 -> new long[] {1 + r.nextInt(m.notices.size() + 1), t};
            default -> new long[] {r.nextInt(60)};
        };
        if (r.nextInt(100) < wild) {
            a[r.nextInt(a.length)] = WILD[r.nextInt(WILD.length)];
        }
        // A wild leap to the last time would leave the rest of the run without times to come.
        if (method == 5 && a[0] <= 1000000000 && a[0] > m.clock + 100000 && r.nextInt(10) != 0) {
            a[0] = m.clock;
        }
        return a;
    }

    /** The class and the model have methods of the same names, found once by their place in NAMES. */
    private static Method[] methodsOf(Class<?> type) {
        Method[] found = new Method[NAMES.length];
        for (Method method : type.getDeclaredMethods()) {
            int place = Arrays.asList(NAMES).indexOf(method.getName());
            if (place >= 0) {
                found[place] = method;
            }
        }
        return found;
    }

    private static long ask(Method[] methods, Object x, int method, long[] a) throws ReflectiveOperationException {
        Class<?>[] types = methods[method].getParameterTypes();
        Object[] given = new Object[types.length];
        for (int k = 0; k < types.length; k++) {
            given[k] = types[k] == long.class ? (Object) a[k] : types[k] == int.class ? (Object) (int) a[k]
                : (Object) (a[k] > 0);
        }
        Object answer = methods[method].invoke(x, given);
        return answer instanceof Boolean yes ? (yes ? 1 : 0) : (Integer) answer;
    }
}
