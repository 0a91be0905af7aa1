import java.util.NoSuchElementException;

/**
 * What the document says of exceptions. Each refused call is made on one of two houses of the same
 * past; afterwards both must answer everything alike.
 */
final class RefusedCalls {
    private static final Class<?> INDEX = IndexOutOfBoundsException.class;
    private static final Class<?> ARGUMENT = IllegalArgumentException.class;
    private static final Class<?> UNSUPPORTED = UnsupportedOperationException.class;
    private static final Class<?> STATE = IllegalStateException.class;
    private static final Class<?> ELEMENT = NoSuchElementException.class;
    private static final Class<?> ARITHMETIC = ArithmeticException.class;

    interface Past {
        Speedrunnery house();
    }

    interface Asked {
        Object on(Speedrunnery x);
    }

    private static Sentence nothing;
    private static Sentence first;

    private RefusedCalls() {
    }

    static void ask() {
        nothing = Sentence.terms("A method that throws an exception changes nothing");
        first = Sentence.terms("If several exceptions apply, the one that is listed first is thrown");
        gameIsRefused();
        gameIsRefusedAfterARun();
        movieIsRefused();
        categoriesAreRefused();
        boardsAreRefused();
        runsAreRefused();
        runsAreRefusedWhenFull();
        mergersAndDaysAreRefused();
        orderInTheGame();
        orderInCategories();
        orderInRuns();
        orderOfThree();
    }

    /** A game that can still be changed: the way 0, 1, 2 with items, and a movie that fits. */
    private static Speedrunnery open() {
        Speedrunnery x = Houses.row(2);
        x.door(2, 0, 7, 3, 1, 4);
        x.putItem(1, 0);
        x.putItem(2, 5);
        x.putItem(8, 6);
        x.setRate(1, 3);
        x.category();
        x.category();
        x.rule(0, 0, 2, 0, 'r');
        x.rule(1, 32, 0, 0, 'g');
        x.split(0, 1);
        x.input(0);
        x.pause(4);
        x.input(1);
        return x;
    }

    /** Runs in each state, a category that was merged, a banned player, and two days gone by. */
    private static Speedrunnery ran() {
        Speedrunnery x = open();
        x.category();
        x.rule(2, 0, 2, 0, 'g');
        Houses.post(x, 0, 0);
        x.nextDay(1);
        x.verify(x.submit(1, 0), 2);
        x.reject(x.submit(2, 0), 1);
        Houses.post(x, 3, 2);
        Houses.post(x, 0, 2);
        x.nextDay(1);
        x.ban(3);
        x.merge(2, 0);
        return x;
    }

    /** As many of all as there can be, and the last day. */
    private static Speedrunnery full() {
        Speedrunnery x = Houses.withAllDoors();
        for (int i = 0; i < 5; i++) {
            x.category();
        }
        for (int i = 0; i < 4; i++) {
            x.split(0, 0);
        }
        for (int i = 0; i < 40; i++) {
            x.input(i % 24);
        }
        for (int i = 0; i < 50; i++) {
            x.nextDay(100);
        }
        return x;
    }

    private static Speedrunnery fullOfRuns() {
        Speedrunnery x = full();
        for (int i = 0; i < 24; i++) {
            x.submit(i % 3, i % 2);
        }
        return x;
    }

    /** All answers, one behind the other; the house is used up by it. */
    private static String told(Speedrunnery x) {
        StringBuilder all = new StringBuilder();
        tell(all, x, Speedrunnery::play, Speedrunnery::ends, Speedrunnery::had, Speedrunnery::desync,
            y -> y.ticks('r'), y -> y.ticks('g'), Speedrunnery::spheres, Speedrunnery::runs,
            Speedrunnery::verifiedShare, Speedrunnery::isSound);
        for (int i = 0; i < 4; i++) {
            int n = i;
            tell(all, x, y -> y.stood(n, 0), y -> y.recordOn(0, n), y -> y.ranked(0, n, true), y -> y.ranked(0, n, false),
                y -> y.route(n), y -> y.routeAt(n, 0), y -> y.judge(n), y -> y.best(n), y -> y.gold(n, 1), y -> y.meanTime(n));
        }
        for (int i = 0; i < 12; i++) {
            int n = i;
            tell(all, x, y -> y.itemIn(n), y -> y.sphereOf(n), y -> y.stateOf(n), y -> y.timeOf(n, 'g'));
        }
        for (int i = 0; i < 6; i++) {
            int n = i;
            tell(all, x, y -> y.setRate(n, 1), y -> y.submit(n, 0), y -> y.submit(n, 1), y -> y.verify(n, 3),
                y -> y.verify(n, 4), y -> y.ranked(0, n, true), y -> y.ban(n), y -> y.rule(n, 0, 1, 0, 'r'));
        }
        for (int i = 0; i < 6; i++) {
            int n = i;
            tell(all, x, y -> y.split(n, 0), y -> y.merge(n, 3), Speedrunnery::category);
        }
        tell(all, x, y -> y.pause(1), Speedrunnery::erase, y -> y.nextDay(1), y -> y.door(0, 0, 1, 0, 0, -1),
            y -> y.input(3), Speedrunnery::play, Speedrunnery::runs);
        return all.toString();
    }

    private static void tell(StringBuilder all, Speedrunnery x, Asked... questions) {
        for (Asked question : questions) {
            Object answer;
            try {
                answer = question.on(x);
            } catch (RuntimeException e) {
                answer = e.getClass().getSimpleName();
            }
            all.append(answer).append(' ');
        }
    }

    private static void refused(Class<?> due, Past past, Asked... calls) {
        String untouched = told(past.house());
        Speedrunnery all = past.house();
        for (Asked call : calls) {
            Speedrunnery x = past.house();
            nothing.is(due, () -> call.on(x)).is(due, () -> call.on(x)).is(untouched, () -> told(x)).is(due, () -> call.on(all));
        }
        nothing.is(untouched, () -> told(all));
    }

    private static void gameIsRefused() {
        refused(INDEX, RefusedCalls::open, x -> x.door(12, 0, 5, 0, 0, -1), x -> x.door(0, -1, 5, 0, 0, -1),
            x -> x.putItem(12, 0), x -> x.putItem(-1, -1), x -> x.setRate(12, 4), x -> x.itemIn(12));
        refused(ARGUMENT, RefusedCalls::open, x -> x.door(0, 0, 1000, 0, 0, -1), x -> x.door(0, 0, 5, 5, 0, -1),
            x -> x.door(0, 0, 5, 0, 256, -1), x -> x.door(0, 0, 5, 0, 0, 8), x -> x.putItem(1, 8), x -> x.putItem(1, -2),
            x -> x.setRate(1, 0), x -> x.setRate(1, 5), x -> x.sphereOf(8));
        refused(STATE, RefusedCalls::full, x -> x.door(0, 0, 5, 0, 0, -1));
        refused(ELEMENT, RefusedCalls::open, x -> x.sphereOf(3), x -> x.sphereOf(6));
    }

    private static void gameIsRefusedAfterARun() {
        refused(UNSUPPORTED, RefusedCalls::ran, x -> x.door(0, 0, 5, 0, 0, -1), x -> x.putItem(1, 7), x -> x.putItem(1, -1),
            x -> x.putItem(4, 0), x -> x.setRate(1, 4), x -> x.shuffle(0), x -> x.shuffle(3));
    }

    private static void movieIsRefused() {
        refused(INDEX, RefusedCalls::open, x -> x.input(3), x -> x.input(-1));
        refused(ARGUMENT, RefusedCalls::open, x -> x.pause(0), x -> x.pause(1000), x -> x.ticks('x'));
        refused(STATE, RefusedCalls::full, x -> x.input(0), x -> x.pause(1));
        refused(ELEMENT, RefusedCalls::open, Speedrunnery::desync);
    }

    private static void categoriesAreRefused() {
        refused(STATE, RefusedCalls::full, Speedrunnery::category, x -> x.split(0, 0));
        refused(INDEX, RefusedCalls::open, x -> x.rule(2, 0, 1, 0, 'r'), x -> x.judge(2), x -> x.split(2, 0), x -> x.split(0, 12));
        refused(ARGUMENT, RefusedCalls::open, x -> x.rule(0, 256, 1, 0, 'g'), x -> x.rule(0, 0, 12, 0, 'g'),
            x -> x.rule(0, 0, 1, 256, 'g'), x -> x.rule(0, 0, 1, 0, 'x'));
        refused(UNSUPPORTED, RefusedCalls::ran, x -> x.rule(2, 0, 1, 0, 'r'));
    }

    private static void boardsAreRefused() {
        refused(INDEX, RefusedCalls::ran, x -> x.gold(3, 0), x -> x.gold(0, 2), x -> x.gold(0, -1), x -> x.best(3),
            x -> x.route(3), x -> x.routeAt(3, 0), x -> x.isShortest(3), x -> x.ranked(3, 0, true), x -> x.timeOf(5, 'r'),
            x -> x.recordOn(3, 0), x -> x.stood(5, 0), x -> x.stood(0, 3), x -> x.meanTime(3), x -> x.stateOf(5));
        refused(ARGUMENT, RefusedCalls::ran, x -> x.routeAt(0, -1), x -> x.ranked(0, -1, true), x -> x.timeOf(0, 'x'),
            x -> x.recordOn(0, 3), x -> x.recordOn(0, -1));
        refused(ELEMENT, RefusedCalls::ran, x -> x.gold(1, 0), x -> x.best(1), x -> x.recordOn(1, 0));
        refused(ELEMENT, RefusedCalls::full, x -> x.gold(0, 4), x -> x.best(0));
        refused(ARITHMETIC, RefusedCalls::ran, x -> x.meanTime(1));
        refused(ARITHMETIC, RefusedCalls::open, Speedrunnery::verifiedShare, x -> x.meanTime(0));
        refused(ELEMENT, () -> {
            Speedrunnery x = open();
            x.rule(0, 255, 0, 0, 'r');
            return x;
        }, x -> x.route(0), x -> x.routeAt(0, 0));
    }

    private static void runsAreRefused() {
        refused(INDEX, RefusedCalls::ran, x -> x.submit(6, 0), x -> x.submit(0, 3), x -> x.verify(5, 4), x -> x.verify(1, 6),
            x -> x.reject(5, 4), x -> x.reject(1, -1), x -> x.ban(6), x -> x.ban(-1));
        refused(UNSUPPORTED, RefusedCalls::ran, x -> x.submit(0, 1), x -> x.submit(0, 2), x -> x.submit(3, 0),
            x -> x.verify(1, 1), x -> x.verify(1, 2), x -> x.verify(0, 5), x -> x.verify(2, 5),
            x -> x.reject(1, 1), x -> x.reject(0, 5), x -> x.reject(2, 5), x -> x.ban(3));
        refused(UNSUPPORTED, RefusedCalls::open, x -> x.submit(0, 1));
    }

    private static void runsAreRefusedWhenFull() {
        refused(STATE, RefusedCalls::fullOfRuns, x -> x.submit(5, 0));
        refused(INDEX, RefusedCalls::fullOfRuns, x -> x.verify(24, 5), x -> x.reject(24, 5));
        refused(UNSUPPORTED, RefusedCalls::fullOfRuns, x -> x.verify(23, 2), x -> x.reject(23, 2));
    }

    private static void mergersAndDaysAreRefused() {
        refused(INDEX, RefusedCalls::ran, x -> x.merge(3, 0), x -> x.merge(0, 3), x -> x.merge(-1, 0));
        refused(ARGUMENT, RefusedCalls::ran, x -> x.merge(0, 0), x -> x.merge(2, 2), x -> x.nextDay(0), x -> x.nextDay(101));
        refused(UNSUPPORTED, RefusedCalls::ran, x -> x.merge(2, 1), x -> x.merge(1, 2), x -> x.merge(0, 2));
        refused(ARGUMENT, RefusedCalls::fullOfRuns, x -> x.nextDay(1), x -> x.nextDay(100));
    }

    private static void firstIs(Class<?> due, Past past, Asked call) {
        first.is(due, () -> call.on(past.house()));
    }

    private static void orderInTheGame() {
        firstIs(INDEX, RefusedCalls::open, x -> x.door(12, 0, 0, 0, 0, -1));
        firstIs(INDEX, RefusedCalls::open, x -> x.door(0, 12, 5, 5, 0, -1));
        firstIs(INDEX, RefusedCalls::ran, x -> x.door(0, 12, 5, 0, 0, -1));
        firstIs(INDEX, RefusedCalls::full, x -> x.door(-1, 0, 5, 0, 0, -1));
        firstIs(ARGUMENT, RefusedCalls::ran, x -> x.door(0, 0, 0, 0, 0, -1));
        firstIs(ARGUMENT, RefusedCalls::full, x -> x.door(0, 0, 5, 0, 0, 8));
        firstIs(UNSUPPORTED, RefusedCalls::fullOfRuns, x -> x.door(0, 0, 5, 0, 0, -1));
        firstIs(INDEX, RefusedCalls::open, x -> x.putItem(12, 8));
        firstIs(INDEX, RefusedCalls::ran, x -> x.putItem(12, 0));
        firstIs(ARGUMENT, RefusedCalls::ran, x -> x.putItem(0, 8));
        firstIs(INDEX, RefusedCalls::open, x -> x.setRate(-1, 5));
        firstIs(INDEX, RefusedCalls::ran, x -> x.setRate(12, 1));
        firstIs(ARGUMENT, RefusedCalls::ran, x -> x.setRate(0, 0));
        firstIs(INDEX, RefusedCalls::full, x -> x.input(24));
        firstIs(ARGUMENT, RefusedCalls::full, x -> x.pause(0));
    }

    private static void orderInCategories() {
        firstIs(INDEX, RefusedCalls::open, x -> x.rule(2, 256, 0, 0, 'r'));
        firstIs(ARGUMENT, RefusedCalls::ran, x -> x.rule(2, 0, 0, -1, 'r'));
        firstIs(ARGUMENT, RefusedCalls::ran, x -> x.rule(2, 0, 0, 0, 'x'));
        firstIs(INDEX, RefusedCalls::full, x -> x.split(0, 12));
        firstIs(INDEX, RefusedCalls::full, x -> x.gold(0, 5));
        firstIs(INDEX, RefusedCalls::open, x -> x.routeAt(2, -1));
        firstIs(ARGUMENT, () -> {
            Speedrunnery x = open();
            x.rule(0, 255, 0, 0, 'r');
            return x;
        }, x -> x.routeAt(0, -1));
        firstIs(INDEX, RefusedCalls::ran, x -> x.ranked(3, -1, true));
        firstIs(INDEX, RefusedCalls::ran, x -> x.recordOn(3, 3));
        firstIs(ARGUMENT, RefusedCalls::ran, x -> x.recordOn(1, 3));
    }

    private static void orderInRuns() {
        firstIs(INDEX, RefusedCalls::ran, x -> x.submit(6, 1));
        firstIs(INDEX, RefusedCalls::ran, x -> x.submit(3, 3));
        firstIs(INDEX, RefusedCalls::fullOfRuns, x -> x.submit(6, 0));
        firstIs(INDEX, RefusedCalls::ran, x -> x.verify(0, 6));
        firstIs(INDEX, RefusedCalls::ran, x -> x.verify(2, -1));
        firstIs(INDEX, RefusedCalls::ran, x -> x.reject(0, 6));
        firstIs(INDEX, RefusedCalls::ran, x -> x.timeOf(5, 'x'));
        firstIs(INDEX, RefusedCalls::ran, x -> x.merge(3, 3));
        firstIs(INDEX, RefusedCalls::ran, x -> x.merge(2, 3));
        firstIs(INDEX, RefusedCalls::ran, x -> x.merge(-1, 2));
        firstIs(ARGUMENT, RefusedCalls::ran, x -> x.merge(2, 2));
    }

    /** A full house in which the movie fits no more, the category is merged, or the player is banned. */
    private static void orderOfThree() {
        Past barred = () -> {
            Speedrunnery x = fullOfRuns();
            x.rule(0, 1, 0, 0, 'r');
            return x;
        };
        Past banned = () -> {
            Speedrunnery x = fullOfRuns();
            x.ban(4);
            return x;
        };
        Past merged = () -> {
            Speedrunnery x = fullOfRuns();
            x.merge(0, 1);
            return x;
        };
        firstIs(UNSUPPORTED, barred, x -> x.submit(0, 0));
        firstIs(UNSUPPORTED, banned, x -> x.submit(4, 0));
        firstIs(UNSUPPORTED, merged, x -> x.submit(0, 0));
        firstIs(STATE, banned, x -> x.submit(5, 0));
        firstIs(INDEX, barred, x -> x.submit(-1, 0));
    }
}
