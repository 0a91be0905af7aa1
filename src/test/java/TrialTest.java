import java.lang.reflect.Array;
import java.lang.reflect.Field;
import java.lang.reflect.Method;
import java.util.Random;

/**
 * isShortest and isSound are true in every house that stands, so the face can't show whether they look.
 * This test looks inside: at what the trial of few doors finds, and at a run whose movie was spoilt.
 */
final class TrialTest {
    private static final int GAMES = 400;

    private TrialTest() {
    }

    private static Object inside(Object of, String name) throws ReflectiveOperationException {
        Field field = of.getClass().getDeclaredField(name);
        field.setAccessible(true);
        return field.get(of);
    }

    private static long tried(Speedrunnery house, int category) throws ReflectiveOperationException {
        Object routes = inside(house, "routes");
        Object rules = inside(Array.get(inside(house, "categories"), category), "newest");
        Method trial = routes.getClass().getDeclaredMethod("leastTried", rules.getClass());
        trial.setAccessible(true);
        return (Long) trial.invoke(routes, rules);
    }

    private static Object asked(Speedrunnery house, int category) {
        try {
            return tried(house, category);
        } catch (ReflectiveOperationException e) {
            return e;
        }
    }

    private static void randomGame(long seed) {
        Random random = new Random(seed);
        Speedrunnery house = new Speedrunnery();
        PlainHouse plain = new PlainHouse();
        int rooms = 1 + random.nextInt(12);
        int doors = random.nextInt(25);
        for (int i = 0; i < doors; i++) {
            int from = random.nextInt(rooms);
            int to = random.nextInt(rooms);
            int frames = 1 + random.nextInt(seed % 2 == 0 ? 4 : 999);
            int loading = random.nextInt(frames);
            int needs = random.nextInt(256) & random.nextInt(256) & random.nextInt(256) & random.nextInt(256);
            int glitch = random.nextInt(3) == 0 ? random.nextInt(8) : -1;
            house.door(from, to, frames, loading, needs, glitch);
            plain.door(from, to, frames, loading, needs, glitch);
        }
        for (int i = 0; i < 8; i++) {
            int room = random.nextInt(rooms);
            house.putItem(room, i);
            plain.putItem(room, i);
            int rate = 1 + random.nextInt(4);
            house.setRate(room, rate);
            plain.setRate(room, rate);
        }
        house.category();
        plain.category();
        for (int i = 0; i < 24; i++) {
            int must = random.nextInt(256) & random.nextInt(256) & random.nextInt(256);
            int barred = random.nextInt(256) & random.nextInt(256);
            char clock = random.nextBoolean() ? 'r' : 'g';
            house.rule(0, i % 2 * must, i % 12, barred, clock);
            plain.rule(0, i % 2 * must, i % 12, barred, clock);
            Check.is("25: few doors in the game " + seed, plain.leastOfFewDoors(0), () -> asked(house, 0));
            Check.is("25: in the game " + seed, true, () -> house.isShortest(0));
        }
    }

    /** The way to the room n takes n doors; only what at most four doors do is tried. */
    private static void rowOfRooms() {
        Speedrunnery house = Houses.row(6);
        house.category();
        for (int room = 0; room <= 6; room++) {
            house.rule(0, 0, room, 0, 'r');
            long due = room <= 4 ? 10L * room : Long.MAX_VALUE;
            Check.is("25: at most 4 doors to the room " + room, due, () -> asked(house, 0));
        }
    }

    private static void spoiltRun(int category) throws ReflectiveOperationException {
        Speedrunnery house = Houses.row(1);
        for (int i = 0; i < 5; i++) {
            house.category();
        }
        house.rule(category, 0, 1, 0, 'r');
        Houses.walk(house, 0);
        Houses.post(house, 0, category);
        Check.is("40: sound at first", true, house::isSound);
        Object movie = inside(Array.get(inside(house, "runList"), 0), "movie");
        Field length = movie.getClass().getDeclaredField("length");
        length.setAccessible(true);
        length.set(movie, 0);
        Check.is("40: a run that does not fit if it is played again", false, house::isSound);
        house.nextDay(1);
        house.ban(0);
        Check.is("40: it is on no board", true, house::isSound);
    }

    /**
     * An item that there is not, in a room far off, keeps the table of routes from being made anew: so
     * it still holds the way to a room farther off, and the trial finds less.
     */
    private static void spoiltTable() throws ReflectiveOperationException {
        Speedrunnery house = Houses.row(3);
        house.category();
        house.rule(0, 0, 3, 0, 'r');
        Check.is("25: at first", true, () -> house.isShortest(0));
        house.rule(0, 0, 1, 0, 'r');
        Object room = Array.get(inside(inside(house, "game"), "rooms"), 9);
        Field item = room.getClass().getDeclaredField("item");
        item.setAccessible(true);
        item.set(room, 31);
        Check.is("25: a movie of few doors takes less time", false, () -> house.isShortest(0));
        Check.is("40: a movie of few doors takes less time", false, house::isSound);
        item.set(room, -1);
        Check.is("25: mended", true, () -> house.isShortest(0));
        Check.is("40: mended", true, house::isSound);
    }

    public static void main(String[] args) throws ReflectiveOperationException {
        for (int seed = 0; seed < GAMES; seed++) {
            randomGame(seed);
        }
        rowOfRooms();
        spoiltTable();
        for (int category = 0; category < 5; category++) {
            spoiltRun(category);
        }
        Check.end();
    }
}
