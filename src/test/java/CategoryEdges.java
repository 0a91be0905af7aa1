/** The edges of categories, splits and routes: the terms of these, and promises 17 to 25. */
final class CategoryEdges {
    private static final int[] NO_SUMS = Sentence.outside(0, 255);
    private static final int[] NO_ROOMS = Sentence.outside(0, 11);

    private CategoryEdges() {
    }

    static void ask() {
        categoryCount();
        categoryAsMade();
        judgedByTheFirst();
        judgedAtTheEdge();
        rulesByDay();
        rulesAsMadeHold();
        lastOfTheDay();
        clockOfTheRules();
        splitRooms();
        splitTimes();
        neverThere();
        firstTimeCounts();
        segments();
        goldOfAll();
        goldOfTheObsolete();
        routeHoweverLong();
        routeByRulesNow();
        firstOfSeveral();
        routeWithoutDoors();
        routeItems();
        categoryCalls();
        ruleCalls();
        judgeAndSplitCalls();
        goldCalls();
        routeCalls();
        isShortest();
    }

    private static void categoryCount() {
        Speedrunnery x = new Speedrunnery();
        Sentence most = Sentence.terms("At most 5 categories are numbered from 0");
        for (int i = 0; i < 5; i++) {
            int due = i;
            most.index(() -> x.judge(due)).is(due, x::category).is('.', () -> x.judge(due));
        }
        most.state(x::category).index(() -> x.judge(5));
    }

    private static void categoryAsMade() {
        Speedrunnery x = Houses.row(1);
        x.door(0, 0, 9, 8, 0, 7);
        x.category();
        Sentence made = Sentence.terms("and a clock, 'r' or 'g'; the room 0, neither items nor glitches, and 'r' as it is made");
        Houses.walk(x, 0);
        made.is('e', () -> x.judge(0));
        Houses.walk(x, 1);
        made.is('.', () -> x.judge(0));
        Houses.post(x, 0, 0);
        made.is(9.0, () -> x.meanTime(0)).is(9L, () -> x.best(0)).is(0L, () -> x.route(0));
        barsNothing(made);
        x.nextDay(5);
        x.category();
        made.is('.', () -> x.judge(1)).noElement(() -> x.recordOn(1, 0));
        x.rule(1, 0, 0, 0, 'g');
        made.is(1, () -> x.submit(3, 1)).is(1, () -> x.rule(0, 0, 0, 0, 'g')).is(1.0, () -> x.meanTime(0));
    }

    private static void barsNothing(Sentence made) {
        Speedrunnery x = Houses.withCategories(1);
        for (int glitch = 0; glitch < 8; glitch++) {
            x.input(x.door(0, 0, 1, 0, 0, glitch));
        }
        made.is('.', () -> x.judge(0)).is(1, () -> x.rule(0, 0, 0, 1, 'r')).is('g', () -> x.judge(0));
    }

    private static void judgedByTheFirst() {
        Speedrunnery x = Houses.row(2);
        x.door(1, 2, 1, 0, 0, 3);
        x.putItem(2, 0);
        x.category();
        x.rule(0, 2, 1, 8, 'r');
        Sentence first = Sentence.terms("A movie is judged by the first of these: 'd' it desyncs, 'e' it does not end"
            + " in the room, 'm' items are not had, 'g' it goes through a door with a barred glitch; '.' it fits");
        Houses.walk(x, 0, 2, 1);
        first.is('d', () -> x.judge(0));
        Houses.walk(x, 0, 2);
        first.is('e', () -> x.judge(0));
        x.rule(0, 2, 2, 8, 'r');
        first.is('m', () -> x.judge(0));
        x.rule(0, 1, 2, 8, 'r');
        first.is('g', () -> x.judge(0));
        x.rule(0, 1, 2, 247, 'r');
        first.is('.', () -> x.judge(0));
        x.rule(0, 1, 2, 8, 'r');
        Houses.walk(x, 0, 1);
        Sentence.terms("'.' it fits").is('.', () -> x.judge(0));
    }

    /** A movie that desyncs at its very end, though it would fit without that input. */
    private static void judgedAtTheEdge() {
        Speedrunnery x = Houses.row(1);
        x.door(1, 1, 1, 0, 0, 0);
        x.door(1, 1, 1, 0, 0, 7);
        x.category();
        x.rule(0, 0, 1, 129, 'r');
        Sentence letter = Sentence.of(19, "Returns the letter");
        Houses.walk(x, 0);
        letter.is('.', () -> x.judge(0));
        Houses.walk(x, 0, 0);
        letter.is('d', () -> x.judge(0));
        Houses.walk(x, 0, 1);
        letter.is('g', () -> x.judge(0));
        Houses.walk(x, 0, 2);
        letter.is('g', () -> x.judge(0));
        Houses.walk(x, 0, 2, 0);
        letter.is('d', () -> x.judge(0));
        x.door(1, 1, 1, 0, 0, 3);
        Houses.walk(x, 0, 1, 3);
        letter.is('g', () -> x.judge(0));
        Houses.walk(x, 0, 3, 1);
        letter.is('g', () -> x.judge(0));
        Houses.walk(x, 0, 3, 3);
        letter.is('.', () -> x.judge(0));
    }

    private static void rulesByDay() {
        Speedrunnery x = Houses.withCategories(1);
        Houses.postWait(x, 0, 0, 7);
        x.nextDay(3);
        Sentence.terms("Rules can be changed").is('.', () -> x.judge(0)).is(1, () -> x.rule(0, 0, 1, 0, 'r'))
            .is('e', () -> x.judge(0));
        Sentence from = Sentence.terms("they hold from the day of this on, until they are changed again");
        from.is(0, () -> x.recordOn(0, 2)).noElement(() -> x.recordOn(0, 3));
        x.nextDay(4);
        from.noElement(() -> x.recordOn(0, 7)).is(2, () -> x.rule(0, 0, 0, 0, 'g')).is(0, () -> x.recordOn(0, 7))
            .noElement(() -> x.recordOn(0, 6)).noElement(() -> x.recordOn(0, 3)).is(0, () -> x.recordOn(0, 0))
            .is(4, () -> x.stood(0, 0));
    }

    /** The rules as it was made hold on the day 0 alone, as they are changed on the next one. */
    private static void rulesAsMadeHold() {
        Speedrunnery x = Houses.withCategories(2);
        Houses.postWait(x, 0, 0, 7);
        x.nextDay(1);
        Sentence from = Sentence.terms("they hold from the day of this on");
        from.is(1, () -> x.rule(0, 0, 1, 0, 'r')).is(0, () -> x.recordOn(0, 0)).noElement(() -> x.recordOn(0, 1))
            .is(2, () -> x.rule(0, 0, 2, 0, 'r')).is(0, () -> x.recordOn(0, 0)).is(1, () -> x.stood(0, 0));
        x.nextDay(1);
        from.is(3, () -> x.rule(0, 0, 0, 0, 'g')).is(2, () -> x.stood(0, 0)).is('.', () -> x.judge(1));
    }

    /** What was submitted and verified under an earlier change of the day falls with it. */
    private static void lastOfTheDay() {
        Speedrunnery x = Houses.withCategories(1);
        x.nextDay(1);
        x.rule(0, 255, 11, 255, 'g');
        x.rule(0, 0, 0, 0, 'r');
        Houses.postWait(x, 0, 0, 7);
        Sentence last = Sentence.terms("of several changes on one day, the last one counts for the whole day");
        last.is(0, () -> x.recordOn(0, 1)).is(3, () -> x.rule(0, 0, 5, 0, 'r')).noElement(() -> x.recordOn(0, 1));
        x.nextDay(1);
        last.is(4, () -> x.rule(0, 0, 0, 0, 'r')).noElement(() -> x.recordOn(0, 1)).is(0, () -> x.recordOn(0, 2))
            .is(5, () -> x.rule(0, 0, 5, 0, 'r')).noElement(() -> x.recordOn(0, 2)).is(0, () -> x.stood(0, 0));
        Speedrunnery y = Houses.withCategories(1);
        Houses.postWait(y, 0, 0, 7);
        last.is(1, () -> y.rule(0, 0, 5, 0, 'r')).noElement(() -> y.recordOn(0, 0));
        y.nextDay(1);
        last.noElement(() -> y.recordOn(0, 0)).is(2, () -> y.rule(0, 0, 0, 0, 'r')).noElement(() -> y.recordOn(0, 0))
            .is(0, () -> y.recordOn(0, 1));
    }

    /** One run is the faster by the real clock, the other one by the game clock. */
    private static Speedrunnery twoClocks() {
        Speedrunnery x = new Speedrunnery();
        x.door(0, 1, 100, 90, 0, -1);
        x.door(0, 1, 50, 0, 0, -1);
        x.door(1, 2, 7, 2, 0, -1);
        x.category();
        x.rule(0, 0, 2, 0, 'r');
        Houses.walk(x, 0, 2);
        Houses.post(x, 0, 0);
        Houses.walk(x, 1, 2);
        Houses.post(x, 1, 0);
        return x;
    }

    private static void clockOfTheRules() {
        Speedrunnery x = twoClocks();
        Sentence time = Sentence.terms("Its time is that of its clock");
        time.is(1, () -> x.ranked(0, 0, true)).is((107 + 57) / 2.0, () -> x.meanTime(0)).is(57L, () -> x.route(0))
            .is(57L, () -> x.best(0)).is(1, () -> x.routeAt(0, 0));
        x.nextDay(1);
        x.rule(0, 0, 2, 0, 'g');
        time.is(0, () -> x.ranked(0, 0, true)).is((15 + 55) / 2.0, () -> x.meanTime(0)).is(15L, () -> x.route(0))
            .is(15L, () -> x.best(0)).is(0, () -> x.routeAt(0, 0)).is(1, () -> x.recordOn(0, 0)).is(0, () -> x.recordOn(0, 1));
    }

    private static void splitRooms() {
        Speedrunnery x = Houses.withCategories(2);
        Sentence four = Sentence.terms("A category can have up to 4 rooms as splits, in an order");
        int[] rooms = {0, 11, 11, 5};
        for (int i = 0; i < 4; i++) {
            int at = i;
            four.index(() -> x.gold(0, at + 1)).is(at + 1, () -> x.split(0, rooms[at]))
                .noElement(() -> x.gold(0, at + 1)).index(() -> x.gold(0, at + 2));
        }
        four.state(() -> x.split(0, 0)).index(() -> x.gold(0, 5)).is(1, () -> x.split(1, 0));
        Speedrunnery y = Houses.row(2);
        y.category();
        y.rule(0, 0, 2, 0, 'r');
        Houses.walk(y, 0, 1);
        Houses.post(y, 0, 0);
        y.split(0, 2);
        four.is(20L, () -> y.gold(0, 0)).is(2, () -> y.split(0, 1)).noElement(() -> y.gold(0, 0));
    }

    private static void splitTimes() {
        Speedrunnery x = Houses.row(3);
        x.category();
        x.rule(0, 0, 2, 0, 'r');
        Houses.walk(x, 0, 1);
        Houses.post(x, 0, 0);
        Sentence has = Sentence.terms("A movie has splits if it comes to each of these rooms, the time at which it is first"
            + " there, by the clock of the rules of this day, not being less than that of the one before");
        x.split(0, 1);
        has.is(10L, () -> x.gold(0, 1)).is(2, () -> x.split(0, 1)).is(0L, () -> x.gold(0, 1)).is(10L, () -> x.gold(0, 2))
            .is(3, () -> x.split(0, 2)).is(20L, () -> x.best(0)).is(4, () -> x.split(0, 3)).noElement(() -> x.best(0))
            .noElement(() -> x.gold(0, 0));
        Speedrunnery y = Houses.row(1);
        y.category();
        y.rule(0, 0, 1, 0, 'r');
        Houses.walk(y, 0);
        Houses.post(y, 0, 0);
        Sentence zero = Sentence.terms("the room 0 has the time 0");
        zero.is(1, () -> y.split(0, 0)).is(0L, () -> y.gold(0, 0)).is(10L, () -> y.gold(0, 1))
            .is(2, () -> y.split(0, 0)).is(0L, () -> y.gold(0, 1)).is(10L, () -> y.gold(0, 2))
            .is(3, () -> y.split(0, 1)).is(10L, () -> y.gold(0, 2)).is(0L, () -> y.gold(0, 3))
            .is(4, () -> y.split(0, 0)).noElement(() -> y.gold(0, 0));
    }

    /** The first split, or one behind others, is a room to which the movie never comes. */
    private static void neverThere() {
        Sentence comes = Sentence.terms("A movie has splits if it comes to each of these rooms");
        for (char clock : new char[] {'r', 'g'}) {
            for (int[] splits : new int[][] {{9}, {0, 9}, {9, 0}, {1, 9}, {9, 9}, {2}, {1, 0, 2}}) {
                Speedrunnery x = Houses.row(2);
                x.category();
                x.rule(0, 0, 1, 0, clock);
                Houses.walk(x, 0);
                Houses.post(x, 0, 0);
                for (int room : splits) {
                    x.split(0, room);
                }
                comes.noElement(() -> x.gold(0, 0)).noElement(() -> x.gold(0, splits.length)).noElement(() -> x.best(0));
            }
        }
    }

    /** The movie comes to a room twice, waits in it, and comes back to the room 0. */
    private static void firstTimeCounts() {
        Speedrunnery x = Houses.row(2);
        x.door(1, 0, 4, 3, 0, -1);
        x.setRate(1, 2);
        x.category();
        x.rule(0, 0, 2, 0, 'r');
        Houses.walk(x, 0, 2, 0);
        x.pause(50);
        x.input(1);
        Houses.post(x, 0, 0);
        x.split(0, 0);
        x.split(0, 1);
        Sentence first = Sentence.terms("the time at which it is first there, by the clock of the rules of this day");
        first.is(0L, () -> x.gold(0, 0)).is(10L, () -> x.gold(0, 1)).is(138L, () -> x.gold(0, 2));
        x.nextDay(1);
        x.rule(0, 0, 2, 0, 'g');
        first.is(132L, () -> x.gold(0, 2)).is(142L, () -> x.best(0));
    }

    private static void segments() {
        Speedrunnery x = Houses.row(4);
        x.setRate(1, 2);
        x.setRate(2, 3);
        x.setRate(3, 4);
        x.category();
        x.rule(0, 0, 4, 0, 'r');
        Houses.walk(x, 0, 1, 2, 3);
        x.pause(1);
        Houses.post(x, 0, 0);
        Sentence.terms("without splits, the whole is one segment").is(101L, () -> x.gold(0, 0)).index(() -> x.gold(0, 1));
        for (int room = 1; room <= 4; room++) {
            x.split(0, room);
        }
        Sentence segment = Sentence.terms("Its segments are the times from one to the next, the first one from 0 on,"
            + " and the last one from the last split to the end");
        long[] due = {10, 20, 30, 40, 1};
        for (int i = 0; i < 5; i++) {
            int at = i;
            segment.is(due[at], () -> x.gold(0, at));
        }
        segment.index(() -> x.gold(0, 5));
    }

    private static void goldOfAll() {
        Speedrunnery x = twoClocks();
        x.split(0, 1);
        Sentence gold = Sentence.terms("The gold of a segment is the least one of all runs on the board of the category,"
            + " obsolete ones too, that have splits");
        gold.is(50L, () -> x.gold(0, 0)).is(7L, () -> x.gold(0, 1));
        Houses.walk(x, 1);
        x.pause(20);
        x.input(2);
        x.submit(2, 0);
        x.verify(2, 0);
        gold.is(50L, () -> x.gold(0, 0));
        x.ban(1);
        gold.is(100L, () -> x.gold(0, 0)).is('v', () -> x.verify(2, 1)).is(50L, () -> x.gold(0, 0))
            .is(7L, () -> x.gold(0, 1)).is(57L, () -> x.best(0));
        x.nextDay(1);
        x.ban(2);
        gold.is(100L, () -> x.gold(0, 0)).is(107L, () -> x.best(0));
    }

    private static void goldOfTheObsolete() {
        Speedrunnery x = twoClocks();
        x.split(0, 1);
        x.ban(1);
        Houses.walk(x, 1);
        x.pause(100);
        x.input(2);
        Sentence.terms("obsolete ones too, that have splits").is(100L, () -> x.gold(0, 0)).is(2, () -> Houses.post(x, 0, 0))
            .is(-1, () -> x.ranked(0, 1, false)).is(50L, () -> x.gold(0, 0)).is(7L, () -> x.gold(0, 1)).is(57L, () -> x.best(0));
    }

    /**
     * All rooms in a row, with eight items at both its ends: one must go from end to end for each item,
     * as the way to each needs those before.
     */
    private static Speedrunnery toAndFro() {
        Speedrunnery x = new Speedrunnery();
        int[] row = {8, 9, 10, 11, 0, 1, 2, 3, 4, 5, 6, 7};
        int[] itemAt = {6, 4, 2, 0, -1, -1, -1, -1, 1, 3, 5, 7};
        for (int i = 0; i < 12; i++) {
            if (itemAt[i] >= 0) {
                x.putItem(row[i], itemAt[i]);
            }
            int outward = itemAt[i] >= 0 ? (1 << itemAt[i]) - 1 : 0;
            if (i < 11) {
                x.door(row[i + 1], row[i], 1, 0, i < 4 ? outward : 0, -1);
            }
            if (i > 0) {
                x.door(row[i - 1], row[i], 1, 0, i > 7 ? outward : 0, -1);
            }
        }
        x.category();
        return x;
    }

    private static void routeHoweverLong() {
        Speedrunnery x = toAndFro();
        x.rule(0, 255, 8, 0, 'r');
        Sentence.terms("is the row of doors, however many, that would fit as a movie by the rules now, of the least time")
            .is(68L, () -> x.route(0)).is(true, () -> x.isShortest(0)).is(-1, () -> x.routeAt(0, 68));
        Speedrunnery y = toAndFro();
        y.rule(0, 255, 8, 0, 'g');
        Sentence many = Sentence.terms("however many");
        for (int i = 0; i < 68; i++) {
            int at = i;
            many.is(at % 40 + 1, () -> y.input((Integer) y.routeAt(0, at)));
            if (at % 40 == 39) {
                many.is('.', y::play).is(40, y::erase);
            }
        }
        Speedrunnery z = Houses.row(11);
        z.category();
        z.rule(0, 0, 11, 0, 'r');
        many.is(110L, () -> z.route(0)).is(10, () -> z.routeAt(0, 10)).is(-1, () -> z.routeAt(0, 11));
    }

    private static void routeByRulesNow() {
        Speedrunnery x = Houses.row(1);
        x.door(0, 1, 3, 0, 0, 0);
        x.door(0, 1, 5, 4, 0, 7);
        x.category();
        Sentence now = Sentence.terms("that would fit as a movie by the rules now, of the least time");
        x.rule(0, 0, 1, 0, 'r');
        now.is(3L, () -> x.route(0)).is(1, () -> x.routeAt(0, 0));
        x.rule(0, 0, 1, 1, 'r');
        now.is(5L, () -> x.route(0)).is(2, () -> x.routeAt(0, 0));
        x.nextDay(100);
        x.rule(0, 0, 1, 0, 'g');
        now.is(1L, () -> x.route(0)).is(2, () -> x.routeAt(0, 0));
        x.rule(0, 0, 1, 129, 'g');
        now.is(10L, () -> x.route(0)).is(0, () -> x.routeAt(0, 0));
        x.nextDay(1);
        now.is(10L, () -> x.route(0)).is(3, () -> x.door(0, 1, 2, 0, 0, 1)).is(2L, () -> x.route(0)).is(3, () -> x.routeAt(0, 0));
        x.setRate(0, 4);
        now.is(8L, () -> x.route(0));
    }

    /** Ways of the same time: few and many doors, and the same door first with another one behind it. */
    private static void firstOfSeveral() {
        Speedrunnery x = new Speedrunnery();
        x.door(1, 3, 5, 0, 0, -1);
        x.door(0, 3, 10, 0, 0, -1);
        x.door(0, 1, 5, 0, 0, -1);
        x.door(1, 3, 5, 0, 0, -1);
        x.category();
        x.rule(0, 0, 3, 0, 'r');
        Sentence first = Sentence.terms("of several, the first one, by comparing the numbers of doors from the first on");
        first.is(10L, () -> x.route(0)).is(1, () -> x.routeAt(0, 0)).is(-1, () -> x.routeAt(0, 1));
        Speedrunnery y = new Speedrunnery();
        y.door(1, 3, 5, 0, 0, -1);
        y.door(0, 1, 5, 0, 0, -1);
        y.door(0, 3, 10, 0, 0, -1);
        y.door(1, 3, 5, 0, 0, -1);
        y.category();
        y.rule(0, 0, 3, 0, 'r');
        first.is(10L, () -> y.route(0)).is(1, () -> y.routeAt(0, 0)).is(0, () -> y.routeAt(0, 1)).is(-1, () -> y.routeAt(0, 2));
        Speedrunnery z = new Speedrunnery();
        z.door(0, 3, 10, 0, 0, -1);
        z.door(0, 3, 9, 0, 0, -1);
        z.door(0, 3, 9, 0, 0, -1);
        z.category();
        z.rule(0, 0, 3, 0, 'r');
        first.is(1, () -> z.routeAt(0, 0));
    }

    private static void routeWithoutDoors() {
        Speedrunnery x = Houses.row(1);
        x.door(1, 0, 5, 0, 0, -1);
        x.putItem(0, 6);
        x.putItem(1, 2);
        x.category();
        Sentence none = Sentence.terms("it has no doors if the room 0 fits");
        x.rule(0, 64, 0, 255, 'r');
        none.is(0L, () -> x.route(0)).is(-1, () -> x.routeAt(0, 0)).is(true, () -> x.isShortest(0));
        x.rule(0, 68, 0, 255, 'r');
        none.is(15L, () -> x.route(0)).is(0, () -> x.routeAt(0, 0)).is(1, () -> x.routeAt(0, 1)).is(-1, () -> x.routeAt(0, 2));
    }

    /** The longer way fetches the item that the shorter one needs; another item is had on no way. */
    private static void routeItems() {
        Speedrunnery x = Houses.row(2);
        x.door(0, 2, 1, 0, 8, -1);
        x.door(1, 0, 2, 0, 0, -1);
        x.putItem(1, 3);
        x.putItem(9, 4);
        x.category();
        Sentence times = Sentence.of(23, "Returns the ticks");
        x.rule(0, 0, 2, 0, 'r');
        times.is(13L, () -> x.route(0)).is(2, () -> x.routeAt(0, 2));
        Sentence none = Sentence.of(23, "if there is none");
        Sentence noRoute = Sentence.of(24, "if there is no route");
        x.rule(0, 16, 2, 0, 'r');
        none.noElement(() -> x.route(0));
        noRoute.noElement(() -> x.routeAt(0, 0)).noElement(() -> x.routeAt(0, Houses.GREATEST));
        x.rule(0, 0, 9, 0, 'r');
        none.noElement(() -> x.route(0));
        noRoute.noElement(() -> x.routeAt(0, 5));
        x.door(2, 9, 1, 0, 16, -1);
        none.noElement(() -> x.route(0));
        x.door(2, 9, 1, 0, 8, 7);
        x.rule(0, 0, 9, 128, 'r');
        none.noElement(() -> x.route(0));
        x.rule(0, 0, 9, 127, 'r');
        times.is(14L, () -> x.route(0));
    }

    private static void categoryCalls() {
        Sentence.of(17, "if there are 5").state(() -> Houses.withCategories(5).category());
        Sentence.of(17, "Returns its number").is(4, () -> Houses.withCategories(4).category());
        Speedrunnery x = Houses.withCategories(5);
        x.merge(0, 1);
        Sentence.of(17, "if there are 5").state(x::category);
    }

    private static void ruleCalls() {
        Speedrunnery x = Houses.withCategories(3);
        Sentence.of(18, "if there is no such category").index(Sentence.outside(0, 2), c -> x.rule(c, 0, 0, 0, 'r'));
        int[] noClocks = {'R', 'G', '.', 0, 'r' + 1, 'g' - 1, 'r' + 256, 65535};
        Sentence.of(18, "if a number is out of range, or there is no such room or clock")
            .argument(NO_SUMS, n -> x.rule(0, n, 0, 0, 'r')).argument(NO_SUMS, n -> x.rule(0, 0, 0, n, 'r'))
            .argument(NO_ROOMS, r -> x.rule(0, 0, r, 0, 'r')).argument(noClocks, c -> x.rule(0, 0, 0, 0, (char) c));
        Sentence.of(18, "`must`: the items, 0 to 255").is(1, () -> x.rule(0, 0, 0, 0, 'r'))
            .is('.', () -> x.judge(0)).is(2, () -> x.rule(0, 255, 0, 0, 'r')).is('m', () -> x.judge(0));
        Sentence.of(18, "`barred`: the glitches, 0 to 255")
            .is(3, () -> x.rule(0, 0, 0, 0, 'g')).is(4, () -> x.rule(0, 0, 0, 255, 'g'));
        Sentence times = Sentence.of(18, "Returns how many times its rules were changed, each call counted");
        times.is(1, () -> x.rule(1, 0, 11, 0, 'r')).is(2, () -> x.rule(1, 0, 11, 0, 'r')).is(5, () -> x.rule(0, 0, 0, 0, 'r'));
        x.nextDay(1);
        times.is(6, () -> x.rule(0, 0, 0, 0, 'r')).is(3, () -> x.rule(1, 0, 0, 0, 'r')).is(1, () -> x.rule(2, 0, 0, 0, 'r'));
        x.merge(0, 1);
        Sentence.of(18, "if it was merged").unsupported(() -> x.rule(0, 0, 0, 0, 'r')).is(4, () -> x.rule(1, 0, 0, 0, 'r'));
        x.nextDay(1);
        Sentence.of(18, "if it was merged").unsupported(() -> x.rule(0, 0, 0, 0, 'r')).is(2, () -> x.rule(2, 0, 0, 0, 'r'));
    }

    private static void judgeAndSplitCalls() {
        Speedrunnery x = Houses.withCategories(2);
        Sentence.of(19, "if there is no such category").index(Sentence.outside(0, 1), x::judge);
        Sentence.of(20, "if there is no such category or room")
            .index(Sentence.outside(0, 1), c -> x.split(c, 0)).index(NO_ROOMS, r -> x.split(0, r));
        Sentence.of(20, "Returns the number of its splits")
            .is(1, () -> x.split(0, 0)).is(1, () -> x.split(1, 11)).is(2, () -> x.split(0, 11)).is(3, () -> x.split(0, 0));
        Sentence.of(20, "if it has 4").is(4, () -> x.split(0, 5)).state(() -> x.split(0, 5)).is(2, () -> x.split(1, 5));
    }

    private static void goldCalls() {
        Speedrunnery x = Houses.withCategories(2);
        Sentence noGold = Sentence.of(21, "if no run has splits");
        Sentence noBest = Sentence.of(22, "if no run has splits");
        noGold.noElement(() -> x.gold(0, 0));
        noBest.noElement(() -> x.best(0));
        int run = Houses.handWait(x, 0, 0, 5);
        x.verify(run, 1);
        noGold.noElement(() -> x.gold(0, 0));
        noBest.noElement(() -> x.best(0));
        x.verify(run, 2);
        Sentence.of(21, "Returns the ticks").is(5L, () -> x.gold(0, 0));
        Sentence.of(22, "Returns the ticks").is(5L, () -> x.best(0));
        Sentence.of(21, "`segment`: the segment, from 0").is(5L, () -> x.gold(0, 0)).index(() -> x.gold(0, -1));
        Sentence.of(21, "if there is no such category or segment")
            .index(Sentence.outside(0, 1), c -> x.gold(c, 0)).index(Sentence.outside(0, 0), s -> x.gold(0, s));
        Sentence.of(22, "if there is no such category").index(Sentence.outside(0, 1), x::best);
        x.split(0, 0);
        Sentence.of(21, "if there is no such category or segment").index(Sentence.outside(0, 1), s -> x.gold(0, s));
        Sentence.of(22, "Returns the ticks").is(5L, () -> x.best(0));
        x.split(0, 3);
        noGold.noElement(() -> x.gold(0, 0)).noElement(() -> x.gold(0, 2));
        noBest.noElement(() -> x.best(0));
        Sentence.of(21, "if there is no such category or segment").index(() -> x.gold(0, 3));
        goldsOfTwo();
    }

    /** Two boards, asked by turns. */
    private static void goldsOfTwo() {
        Speedrunnery x = Houses.withCategories(2);
        Houses.postWait(x, 0, 0, 5);
        Houses.postWait(x, 0, 1, 8);
        for (int i = 0; i < 2; i++) {
            Sentence.of(22, "Returns the ticks").is(5L, () -> x.best(0)).is(8L, () -> x.best(1));
            Sentence.of(21, "Returns the ticks").is(5L, () -> x.gold(0, 0)).is(8L, () -> x.gold(1, 0));
        }
        x.split(1, 4);
        Sentence.of(22, "if no run has splits").is(5L, () -> x.best(0)).noElement(() -> x.best(1)).is(5L, () -> x.best(0));
    }

    private static void routeCalls() {
        Speedrunnery x = Houses.row(2);
        x.category();
        x.rule(0, 0, 2, 0, 'r');
        int[] noCategories = Sentence.outside(0, 0);
        Sentence.of(23, "if there is no such category").index(noCategories, x::route);
        Sentence.of(24, "if there is no such category").index(noCategories, c -> x.routeAt(c, 0));
        Sentence.of(24, "if the index is less than 0").argument(new int[] {-1, -2, Houses.LEAST}, i -> x.routeAt(0, i));
        Sentence.of(24, "`index`: the index, from 0").is(0, () -> x.routeAt(0, 0));
        Sentence.of(24, "Returns the door, -1 behind the last one").is(1, () -> x.routeAt(0, 1))
            .each(-1, new int[] {2, 3, 40, 108, 1000, Houses.GREATEST}, i -> x.routeAt(0, i));
        Sentence.of(25, "if there is no such category").index(noCategories, x::isShortest);
        Sentence.of(23, "if there is no such category").index(() -> new Speedrunnery().route(0));
        Sentence.of(25, "if there is no such category").index(() -> new Speedrunnery().isShortest(0));
    }

    /** Movies of 4 doors and of 5 doors are the fastest ones, and such as never fit. */
    private static void isShortest() {
        Sentence so = Sentence.of(25, "Returns true if so");
        for (int doors = 0; doors <= 5; doors++) {
            Speedrunnery x = Houses.row(5);
            x.door(0, doors, 999, 0, 0, -1);
            x.category();
            int end = doors;
            so.is(1, () -> x.rule(0, 0, end, 0, 'r')).is(true, () -> x.isShortest(0)).is(10L * doors, () -> x.route(0));
        }
        Speedrunnery none = Houses.withCategories(1);
        so.is(1, () -> none.rule(0, 1, 0, 0, 'r')).is(true, () -> none.isShortest(0)).noElement(() -> none.route(0));
    }
}
