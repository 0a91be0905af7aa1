import java.lang.reflect.InvocationTargetException;
import java.lang.reflect.Method;
import java.util.ArrayList;
import java.util.Arrays;
import java.util.HashMap;
import java.util.List;
import java.util.Map;
import java.util.Random;
import java.util.TreeMap;

/** Random runs of 512 calls, each answer compared with that of PlainHouse. */
final class RandomRunsTest {
    private static final int CALLS = 512;
    private static final Map<String, Method> ASKED = new TreeMap<>();
    private static final Map<String, Method> PLAIN = new HashMap<>();
    /** How often each call answered, and how often it threw each exception. */
    private static final Map<String, Integer> SEEN = new TreeMap<>();

    private final Random random;
    private final Speedrunnery house = new Speedrunnery();
    private final PlainHouse plain = new PlainHouse();
    private final List<String> told = new ArrayList<>();
    private final int rooms;
    private final int doors;
    private final int frames;
    private final int items;
    private final int long0;
    private final int glitches;
    private boolean wrong = false;
    private final List<int[]> ways = new ArrayList<>();

    private RandomRunsTest(long seed) {
        random = new Random(seed);
        rooms = 1 + random.nextInt(12);
        doors = random.nextInt(25);
        frames = random.nextBoolean() ? 3 : 999;
        items = random.nextInt(9);
        long0 = random.nextInt(4);
        glitches = random.nextInt(5);
    }

    private Object ask(String name, Object... args) {
        Object got = answer(ASKED.get(name), house, args);
        Object due = answer(PLAIN.get(name), plain, args);
        told.add(name + Arrays.toString(args) + " = " + got);
        SEEN.merge(name + (got instanceof Class<?> c ? " " + c.getSimpleName() : " answers"), 1, Integer::sum);
        if (!due.equals(got)) {
            wrong = true;
            told.add("due is " + due);
        }
        return got;
    }

    private static Object answer(Method method, Object on, Object... args) {
        try {
            return method.invoke(on, args);
        } catch (InvocationTargetException e) {
            return e.getCause().getClass();
        } catch (IllegalAccessException e) {
            throw new AssertionError(e);
        }
    }

    private int some(int count) {
        int chance = random.nextInt(120);
        return chance == 0 ? -1 : chance == 1 ? count : chance == 2 ? random.nextInt() : random.nextInt(Math.max(1, count));
    }

    private int sum(int of) {
        int all = random.nextInt(256) & random.nextInt(256) & (1 << of) - 1;
        int chance = random.nextInt(150);
        return chance == 0 ? -1 : chance == 1 ? 256 : chance == 2 ? 255 : random.nextInt(3) == 0 ? all : all & random.nextInt(256);
    }

    private char clock() {
        int chance = random.nextInt(60);
        return chance == 0 ? (char) random.nextInt(300) : chance % 2 == 0 ? 'r' : 'g';
    }

    private void addDoor() {
        int from = some(rooms);
        int to = some(rooms);
        int time = 1 + some(frames);
        int loading = random.nextInt(3) == 0 ? some(Math.max(1, time)) : 0;
        int needs = random.nextInt(3) == 0 ? sum(items) : 0;
        int glitch = random.nextInt(100) == 0 ? 8 : random.nextInt(4) == 0 ? some(glitches + 1) : -1;
        Object got = ask("door", from, to, time, loading, needs, glitch);
        if (got instanceof Integer) {
            ways.add(new int[] {from, to});
        }
    }

    private void makeGame() {
        for (int i = 0; i < doors; i++) {
            addDoor();
        }
        for (int i = 0; i < items; i++) {
            ask("putItem", some(rooms), random.nextInt(12) == 0 ? -1 : some(8));
        }
        for (int i = 0; i < rooms / 2; i++) {
            ask("setRate", some(rooms), 1 + some(4));
        }
    }

    /** A walk by doors that lead from where the movie is, so that some movies fit. */
    private void makeMovie() {
        ask("erase");
        int length = random.nextInt(20) == 0 ? 42 : random.nextInt(8);
        for (int i = 0; i < length; i++) {
            if (random.nextInt(6) == 0 || ways.isEmpty()) {
                ask("pause", 1 + some(frames));
                continue;
            }
            int here = plain.ends();
            int door = random.nextInt(ways.size());
            for (int tries = 0; tries < 60 && ways.get(door)[0] != here; tries++) {
                door = random.nextInt(ways.size());
            }
            ask("input", random.nextInt(60) == 0 ? some(25) : door);
            if (plain.play() != '.' && random.nextInt(10) != 0) {
                ask("erase");
            }
        }
    }

    private void followRoute() {
        int category = some(5);
        ask("erase");
        for (int i = 0; i < 41; i++) {
            Object door = ask("routeAt", category, i);
            if (!(door instanceof Integer number) || number < 0) {
                break;
            }
            ask("input", number);
        }
        ask("submit", some(6), category);
    }

    private void changeRules() {
        int category = some(5);
        int end = random.nextInt(3) == 0 ? plain.ends() : random.nextInt(3) == 0 ? 0 : some(12);
        ask("rule", category, random.nextInt(2) * sum(items), end, random.nextInt(2) * sum(glitches + 1), clock());
    }

    private void submitSome() {
        for (int i = random.nextInt(3); i >= 0; i--) {
            ask("submit", some(6), some(5));
        }
        int run = some(Math.max(1, plain.runs()));
        for (int i = random.nextInt(4); i > 0; i--) {
            ask("verify", run, some(6));
        }
    }

    private void changeSomething() {
        switch (random.nextInt(long0 == 0 ? 40 : 24)) {
            case 0, 1, 2 -> makeMovie();
            case 3 -> followRoute();
            case 4, 5 -> changeRules();
            case 6, 7, 8, 9 -> submitSome();
            case 10, 11 -> ask("verify", some(Math.max(1, plain.runs())), some(6));
            case 12 -> ask("reject", some(Math.max(1, plain.runs())), some(6));
            case 13 -> ask("ban", random.nextInt(6) == 0 ? some(6) : 6);
            case 14 -> ask("merge", random.nextInt(4) == 0 ? some(5) : 5, some(5));
            case 15, 16, 17 -> ask("nextDay", random.nextInt(30) == 0 ? some(102) : 1 + random.nextInt(long0 == 3 ? 100 : 3));
            case 18 -> ask("split", some(5), random.nextInt(4) == 0 ? plain.ends() : some(12));
            case 19 -> ask("category");
            case 20 -> addDoor();
            case 21 -> ask("putItem", some(rooms), some(8));
            case 22 -> ask("shuffle", random.nextInt(9) == 0 ? Integer.MAX_VALUE - random.nextInt(20) : random.nextInt());
            default -> askSomething();
        }
    }

    private void askSomething() {
        Object[] names = ASKED.keySet().toArray();
        String name = (String) names[random.nextInt(names.length)];
        switch (name) {
            case "spheres", "play", "desync", "ends", "had", "runs", "verifiedShare", "isSound" -> ask(name);
            case "itemIn" -> ask(name, some(12));
            case "sphereOf" -> ask(name, some(8));
            case "ticks" -> ask(name, clock());
            case "judge", "best", "route", "isShortest", "meanTime" -> ask(name, some(5));
            case "gold" -> ask(name, some(5), random.nextInt(6) == 0 ? some(6) : some(2));
            case "routeAt" -> ask(name, some(5), some(6));
            case "stateOf" -> ask(name, some(Math.max(1, plain.runs())));
            case "ranked" -> ask(name, some(5), some(4), random.nextBoolean());
            case "timeOf" -> ask(name, some(Math.max(1, plain.runs())), clock());
            case "recordOn" -> ask(name, some(5), some(10));
            case "stood" -> ask(name, some(Math.max(1, plain.runs())), some(5));
            default -> { }
        }
    }

    private boolean run() {
        for (int i = random.nextInt(6); i > 0; i--) {
            ask("category");
        }
        makeGame();
        while (told.size() < CALLS && !wrong) {
            if (random.nextInt(3) == 0) {
                changeSomething();
            } else {
                askSomething();
            }
        }
        if (wrong) {
            told.forEach(System.out::println);
        }
        return !wrong;
    }

    public static void main(String[] args) {
        int seeds = args.length > 0 ? Integer.parseInt(args[0]) : 1500;
        for (Method m : Speedrunnery.class.getMethods()) {
            if (m.getDeclaringClass() == Speedrunnery.class) {
                ASKED.put(m.getName(), m);
            }
        }
        for (Method m : PlainHouse.class.getMethods()) {
            PLAIN.put(m.getName(), m);
        }
        for (int seed = 0; seed < seeds; seed++) {
            RandomRunsTest test = new RandomRunsTest(seed);
            int number = seed;
            Check.is("run of seed " + number, true, test::run);
            if (test.wrong) {
                break;
            }
        }
        if (args.length > 1) {
            SEEN.forEach((what, often) -> System.out.println(often + "\t" + what));
        }
        Check.end();
    }
}
