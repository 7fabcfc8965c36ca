import java.lang.reflect.InvocationTargetException;
import java.lang.reflect.Method;
import java.util.Arrays;
import java.util.Comparator;
import java.util.Random;

/** Runs of random calls on the class and on the Model, whose answers and digests must be the same. */
public final class RandomRunsTest {
    private static final int RUNS = 400, CALLS = 250;
    private static final int[] EDGES = {Integer.MIN_VALUE, Integer.MAX_VALUE, -1, -2, 6, 7, 20, 21, 40, 41, 80, 81, 99,
        100, 999, 1000, 2147483646};
    private static final Method[] FACE = face();

    private final Random random;
    private final DearLetters real = new DearLetters();
    private final Model model = new Model();
    private final StringBuilder log = new StringBuilder();

    private RandomRunsTest(long seed) {
        random = new Random(seed);
    }

    public static void main(String[] args) throws ReflectiveOperationException {
        int runs = args.length > 0 ? Integer.parseInt(args[0]) : RUNS;
        for (int run = 0; run < runs; run++) {
            if (!new RandomRunsTest(run).isAlike()) {
                System.out.println("run " + run + " differs");
                System.exit(1);
            }
        }
        System.out.println("RandomRunsTest: " + runs + " runs alike");
    }

    private static Method[] face() {
        Method[] methods = Arrays.stream(DearLetters.class.getDeclaredMethods())
            .filter(m -> java.lang.reflect.Modifier.isPublic(m.getModifiers())).toArray(Method[]::new);
        Arrays.sort(methods, Comparator.comparing(Method::getName));
        return methods;
    }

    private static Method named(String name) {
        return Arrays.stream(FACE).filter(m -> m.getName().equals(name)).findFirst().orElseThrow();
    }

    private boolean isAlike() throws ReflectiveOperationException {
        write(0, townText(random.nextInt(8) == 0));
        boolean alike = call(named("fault"), 0) && call(named("town"), 0);
        for (int i = 0; alike && i < CALLS; i++) {
            alike = step();
        }
        return alike;
    }

    private boolean step() throws ReflectiveOperationException {
        int lot = random.nextInt(100);
        if (lot < 25) {
            return call(named("sell"), random.nextInt(4), random.nextInt(7));
        }
        if (lot < 31) {
            return call(named("days"), random.nextInt(2));
        }
        if (lot < 38) {
            return call(named("send"), random.nextInt(7), random.nextInt(7), random.nextInt(60), random.nextInt(5));
        }
        if (lot < 39) {
            write(random.nextInt(2), townText(random.nextBoolean()));
            return call(named("fault"), random.nextInt(3));
        }
        if (lot < 44) {
            return prices();
        }
        Method method = FACE[random.nextInt(FACE.length)];
        if (method.getName().equals("town") && random.nextInt(4) > 0 || method.getName().equals("luck") && lot > 60) {
            return true;
        }
        int[] args = new int[method.getParameterCount()];
        for (int i = 0; i < args.length; i++) {
            args[i] = random.nextInt(12) == 0 ? EDGES[random.nextInt(EDGES.length)] : small();
        }
        return call(method, args);
    }

    private int small() {
        return random.nextInt(3) == 0 ? random.nextInt(12) : random.nextInt(4);
    }

    /** A row of prices as they may be asked along a walk that really is there. */
    private boolean prices() throws ReflectiveOperationException {
        int x = random.nextInt(7);
        int sales = random.nextInt(5);
        boolean alike = call(named("row"), 1, sales);
        int at = x;
        int paid = 0;
        for (int i = 0; alike && i < sales; i++) {
            int beside = real.beside(at);
            paid = real.asks(at, paid);
            alike = call(named("lay"), 1, i, paid);
            if (beside <= 0 || paid < 0) {
                break;
            }
            for (int n = random.nextInt(Integer.bitCount(beside)); n > 0; n--) {
                beside &= beside - 1;
            }
            at = Integer.numberOfTrailingZeros(beside);
        }
        return alike && call(named("had"), x, 1) && call(named("sure"), x, 1) && call(named("first"), x, 1, 2);
    }

    private void write(int t, String s) throws ReflectiveOperationException {
        call(named("text"), t, s.length());
        for (int i = 0; i < s.length(); i++) {
            call(named("put"), t, i, s.charAt(i));
        }
    }

    private String townText(boolean faulty) {
        StringBuilder s = new StringBuilder();
        int bearers = 2 + random.nextInt(6);
        int most = random.nextBoolean() ? 9 : 99;
        for (int i = 0; i < bearers; i++) {
            s.append("bmfrusbf".charAt(random.nextInt(8))).append(String.format("%02d", random.nextInt(most + 1)));
            s.append(" ".repeat(random.nextInt(2)));
        }
        int paths = random.nextInt(13);
        for (int i = 0; i < paths; i++) {
            int one = random.nextInt(bearers);
            int other = (one + 1 + random.nextInt(bearers - 1)) % bearers;
            s.append('w').append(one).append(other).append(" ".repeat(random.nextInt(2)));
        }
        if (faulty) {
            s.setCharAt(random.nextInt(s.length()), "bmfrusw0123456789 x".charAt(random.nextInt(19)));
            s.setLength(random.nextInt(s.length()) + 1);
        }
        s.setLength(Math.min(80, s.length()));
        return s.toString();
    }

    private boolean call(Method method, int... args) throws ReflectiveOperationException {
        Object[] boxed = Arrays.stream(args).boxed().toArray();
        log.append(method.getName()).append(Arrays.toString(args));
        long want;
        long got;
        try {
            Method twin = Model.class.getDeclaredMethod(method.getName(), method.getParameterTypes());
            if (method.getName().equals("digest")) {
                want = model.digest();
            } else {
                want = model.call(() -> answer(twin, boxed));
            }
            got = ((Number) method.invoke(real, boxed)).longValue();
        } catch (InvocationTargetException thrown) {
            System.out.println(log);
            throw thrown;
        }
        log.append(" = ").append(got).append('\n');
        boolean alike = got == want && real.digest() == model.digest() && real.asked() == model.asked()
            && real.finding() == model.finding();
        if (!alike) {
            System.out.println(log);
            System.out.println("due is " + want + ", asked " + model.asked() + ", finding " + model.finding()
                + ", digests " + real.digest() + " and " + model.digest());
        }
        return alike;
    }

    private int answer(Method twin, Object[] args) {
        try {
            return (int) twin.invoke(model, args);
        } catch (InvocationTargetException thrown) {
            if (thrown.getCause() instanceof RuntimeException cause) {
                throw cause;
            }
            throw new IllegalStateException(thrown);
        } catch (IllegalAccessException hidden) {
            throw new IllegalStateException(hidden);
        }
    }
}
