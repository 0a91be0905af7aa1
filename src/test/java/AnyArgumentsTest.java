import java.lang.reflect.InvocationTargetException;
import java.lang.reflect.Method;
import java.lang.reflect.Modifier;
import java.util.Arrays;
import java.util.Comparator;
import java.util.List;
import java.util.Random;

/**
 * Any arguments in any state, also behind the 512th call: a call answers, or it throws exactly one of
 * the exceptions that the document lists for it, and the class itself threw this one.
 */
final class AnyArgumentsTest {
    private static final int HOUSES = 400;
    private static final int CALLS = 3000;
    private static final int[] FAR = {
        Integer.MIN_VALUE, Integer.MIN_VALUE + 1, -65536, -1000, -256, -2, -1, 0, 1, 2, 3, 4, 5, 6, 7, 8, 11, 12, 23, 24,
        39, 40, 50, 100, 101, 255, 256, 512, 998, 999, 1000, 5000, 5001, 65536, Integer.MAX_VALUE - 1, Integer.MAX_VALUE};

    private AnyArgumentsTest() {
    }

    private static Object argument(Class<?> type, Random random, boolean isNear) {
        if (type == boolean.class) {
            return random.nextBoolean();
        }
        if (type == char.class) {
            int chance = random.nextInt(12);
            return chance == 0 ? (char) random.nextInt(65536) : chance % 2 == 0 ? 'r' : 'g';
        }
        int chance = random.nextInt(60);
        if (isNear && chance != 0) {
            return random.nextInt(chance < 20 ? 2 : chance < 50 ? 6 : 13) - (chance == 59 ? 1 : 0);
        }
        return chance == 1 ? random.nextInt() : FAR[random.nextInt(FAR.length)];
    }

    private static boolean isPromised(Method method, Throwable thrown) {
        boolean isListed = List.of(method.getExceptionTypes()).contains(thrown.getClass());
        StackTraceElement[] trace = thrown.getStackTrace();
        boolean isOwn = trace.length > 0 && trace[0].getClassName().startsWith("Speedrunnery");
        boolean isMachines = String.valueOf(thrown.getMessage()).contains("/ by zero");
        return isListed && isOwn && !isMachines;
    }

    private static void call(Speedrunnery house, Method method, Random random, boolean isNear) {
        Object[] arguments = new Object[method.getParameterCount()];
        for (int i = 0; i < arguments.length; i++) {
            arguments[i] = argument(method.getParameterTypes()[i], random, isNear);
        }
        try {
            method.invoke(house, arguments);
        } catch (InvocationTargetException e) {
            if (!isPromised(method, e.getCause())) {
                Check.is(method.getName() + Arrays.toString(arguments), "an answer or a listed exception", e::getCause);
            }
        } catch (IllegalAccessException e) {
            throw new AssertionError(e);
        }
    }

    private static Method[] face() {
        Method[] face = Speedrunnery.class.getDeclaredMethods();
        face = Arrays.stream(face).filter(m -> Modifier.isPublic(m.getModifiers())).toArray(Method[]::new);
        Arrays.sort(face, Comparator.comparing(Method::getName));
        return face;
    }

    /** Days and rules without number: more of them than an object has calls. */
    private static void manyDays() {
        Speedrunnery house = new Speedrunnery();
        house.category();
        house.submit(0, 0);
        house.verify(0, 1);
        house.verify(0, 2);
        for (int day = 1; day <= 5000; day++) {
            int due = day;
            Check.is("the day " + day, due, () -> house.nextDay(1));
            Check.is("a rule on the day " + day, due, () -> house.rule(0, 0, due % 2, 0, 'r'));
        }
        Check.is("the record of the last day", 0, () -> house.recordOn(0, 5000));
        Check.is("days are counted", true, () -> house.stood(0, 0) >= 0);
    }

    public static void main(String[] args) {
        Method[] face = face();
        for (int seed = 0; seed < HOUSES; seed++) {
            Random random = new Random(seed);
            Speedrunnery house = new Speedrunnery();
            int quiet = random.nextInt(CALLS / 4);
            int far = 2 + random.nextInt(6);
            for (int i = 0; i < CALLS; i++) {
                Method method = face[random.nextInt(face.length)];
                boolean ends = i < quiet && List.of("submit", "ban", "merge").contains(method.getName());
                if (!ends) {
                    call(house, method, random, random.nextInt(far) != 0);
                }
            }
            int number = seed;
            Check.is("the house of seed " + number + " is sound", true, house::isSound);
        }
        manyDays();
        Check.end();
    }
}
