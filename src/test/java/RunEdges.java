/** The edges of runs, boards, bans, mergers and days: the terms of these, and promises 26 to 40. */
final class RunEdges {
    private static final int[] NO_PLAYERS = Sentence.outside(0, 5);
    private static final int[] NO_CLOCKS = {'R', 'G', '.', 0, 'r' + 1, 'g' - 1, 'r' + 256, 65535};

    private RunEdges() {
    }

    static void ask() {
        callCount();
        runCount();
        runIsKept();
        states();
        verifiedByTwo();
        rejected();
        days();
        bannedFrom();
        mergedFrom();
        mergedTwice();
        boardOfADay();
        boardByRules();
        boardOrder();
        obsolete();
        recordOfADay();
        submitCalls();
        submitRefused();
        verifyCalls();
        rejectCalls();
        banCalls();
        mergeCalls();
        mergeRefused();
        nextDayCalls();
        rankedCalls();
        timeCalls();
        recordCalls();
        stoodCalls();
        counts();
        meanCalls();
        isSound();
    }

    private static void callCount() {
        Speedrunnery x = Houses.withCategories(1);
        Houses.post(x, 0, 0);
        for (int i = 0; i < 507; i++) {
            x.nextDay(i % 2 + 1);
        }
        Sentence.terms("An object is used for at most 512 calls after it has been made; what later calls answer is free")
            .is(761, () -> x.stood(0, 0));
        Speedrunnery y = Houses.withCategories(1);
        for (int i = 0; i < 510; i++) {
            y.rule(0, 0, i % 2, 0, 'r');
        }
        Sentence.terms("An object is used for at most 512 calls").is(511, () -> y.rule(0, 0, 0, 0, 'r'));
    }

    private static void runCount() {
        Speedrunnery x = Houses.withCategories(5);
        Sentence most = Sentence.terms("At most 24 runs are numbered from 0, each a movie of a player, 0 to 5, for a category");
        for (int i = 0; i < 24; i++) {
            int due = i;
            most.index(() -> x.stateOf(due)).is(due, () -> x.submit(due % 6, due % 5)).is('s', () -> x.stateOf(due));
        }
        most.state(() -> x.submit(0, 0)).index(() -> x.stateOf(24)).is(24, x::runs).is('x', () -> {
            x.reject(23, 0);
            return x.stateOf(23);
        }).state(() -> x.submit(0, 0));
    }

    private static void runIsKept() {
        Speedrunnery x = Houses.row(1);
        x.category();
        x.rule(0, 0, 1, 0, 'r');
        x.pause(3);
        x.input(0);
        Sentence kept = Sentence.of(26, "Submits the movie, which stays as it is");
        kept.is(0, () -> x.submit(0, 0)).is(13L, () -> x.ticks('r')).is(3, () -> x.pause(2)).is(13L, () -> x.timeOf(0, 'r'))
            .is(1, () -> x.submit(0, 0)).is(3, x::erase).is(1, () -> x.input(0)).is(2, () -> x.submit(0, 0))
            .is(13L, () -> x.timeOf(0, 'r')).is(15L, () -> x.timeOf(1, 'r')).is(10L, () -> x.timeOf(2, 'r'))
            .is(true, x::isSound);
    }

    private static void states() {
        Speedrunnery x = Houses.withCategories(1);
        x.submit(0, 0);
        x.submit(0, 0);
        x.submit(0, 0);
        Sentence state = Sentence.terms("A run is submitted, 's'");
        state.is('s', () -> x.stateOf(0)).is('s', () -> x.verify(0, 1)).is('s', () -> x.stateOf(0))
            .is(-1, () -> x.ranked(0, 0, true));
        Sentence.terms("verified, 'v', as two others than its player, banned or not, have verified it, on the day of the second")
            .is('v', () -> x.verify(0, 2)).is('v', () -> x.stateOf(0)).is('s', () -> x.stateOf(1));
        Sentence.terms("rejected, 'x', if one of the others rejects it ahead of that, also one who verified it")
            .is(false, () -> x.reject(1, 5)).is('x', () -> x.stateOf(1)).is('s', () -> x.verify(2, 1))
            .is(true, () -> x.reject(2, 1)).is('x', () -> x.stateOf(2)).is(-1, () -> x.ranked(0, 1, true));
    }

    private static void verifiedByTwo() {
        Speedrunnery x = Houses.withCategories(1);
        x.submit(3, 0);
        x.ban(1);
        Sentence two = Sentence.terms("as two others than its player, banned or not, have verified it, on the day of the second");
        two.unsupported(() -> x.verify(0, 3)).is('s', () -> x.verify(0, 1)).unsupported(() -> x.verify(0, 1));
        x.nextDay(2);
        x.ban(2);
        two.unsupported(() -> x.verify(0, 1)).unsupported(() -> x.verify(0, 3)).is('v', () -> x.verify(0, 2));
        x.nextDay(1);
        two.noElement(() -> x.recordOn(0, 0)).noElement(() -> x.recordOn(0, 1)).is(0, () -> x.recordOn(0, 2))
            .is(2, () -> x.stood(0, 0));
    }

    private static void rejected() {
        Speedrunnery x = Houses.withCategories(1);
        x.ban(5);
        x.submit(0, 0);
        x.submit(0, 0);
        x.submit(0, 0);
        x.verify(0, 1);
        x.verify(0, 2);
        x.verify(1, 1);
        Sentence ahead = Sentence.terms("if one of the others rejects it ahead of that, also one who verified it");
        ahead.unsupported(() -> x.reject(0, 3)).is('v', () -> x.stateOf(0)).unsupported(() -> x.reject(1, 0))
            .is('s', () -> x.stateOf(1)).is(true, () -> x.reject(1, 2)).is('x', () -> x.stateOf(1))
            .unsupported(() -> x.verify(1, 3)).unsupported(() -> x.reject(1, 3)).is('x', () -> x.stateOf(1))
            .is(false, () -> x.reject(2, 5));
    }

    private static void days() {
        Speedrunnery x = Houses.withCategories(1);
        Houses.post(x, 0, 0);
        Sentence.terms("The day is 0 at first")
            .is(0, () -> x.recordOn(0, 0)).argument(() -> x.recordOn(0, 1)).is(1, () -> x.stood(0, 0)).is(1, () -> x.nextDay(1));
    }

    private static void bannedFrom() {
        Speedrunnery x = Houses.withCategories(1);
        Houses.post(x, 0, 0);
        Houses.postWait(x, 1, 0, 5);
        x.nextDay(4);
        x.ban(0);
        Sentence from = Sentence.terms("A player can be banned from a day on, that of the call");
        from.is(0, () -> x.recordOn(0, 3)).is(1, () -> x.recordOn(0, 4)).unsupported(() -> x.submit(0, 0));
        x.nextDay(1);
        from.is(1, () -> x.recordOn(0, 5)).is(4, () -> x.stood(0, 0)).is(2, () -> x.stood(1, 0))
            .unsupported(() -> x.submit(0, 0)).is(2, () -> x.submit(1, 0));
        Speedrunnery y = Houses.withCategories(1);
        Houses.post(y, 0, 0);
        from.is(1, () -> y.ban(0)).noElement(() -> y.recordOn(0, 0)).is(0, () -> y.stood(0, 0));
    }

    private static void mergedFrom() {
        Speedrunnery x = Houses.withCategories(3);
        Houses.postWait(x, 0, 0, 5);
        Houses.postWait(x, 1, 1, 9);
        Houses.handWait(x, 2, 0, 2);
        x.nextDay(3);
        x.merge(0, 1);
        Sentence merged = Sentence.terms("A category can be merged into another one, that has not been merged, from a day on:"
            + " its runs are that one's then, and it takes no more");
        merged.is(0, () -> x.recordOn(0, 2)).noElement(() -> x.recordOn(0, 3)).is(1, () -> x.recordOn(1, 2))
            .is(0, () -> x.recordOn(1, 3)).is(1, () -> x.ranked(1, 1, true)).is(-1, () -> x.ranked(1, 2, true))
            .is('s', () -> x.verify(2, 0)).is('v', () -> x.verify(2, 1)).is(2, () -> x.ranked(1, 0, true))
            .noElement(() -> x.recordOn(0, 3)).is(2, () -> x.recordOn(1, 3)).unsupported(() -> x.submit(3, 0))
            .is(3, () -> x.submit(3, 1)).unsupported(() -> x.merge(2, 0)).unsupported(() -> x.merge(0, 2));
        x.nextDay(1);
        merged.unsupported(() -> x.submit(3, 0)).unsupported(() -> x.merge(0, 2)).is(3, () -> x.stood(0, 0))
            .is(0, () -> x.stood(0, 1)).is(3, () -> x.stood(1, 1)).is(2, () -> x.stood(2, 1)).is(0, () -> x.stood(2, 0));
    }

    /** A chain of mergers, two of them on one day, and the last one later. */
    private static void mergedTwice() {
        Speedrunnery x = Houses.withCategories(5);
        Houses.postWait(x, 0, 0, 5);
        x.nextDay(1);
        Sentence twice = Sentence.of(31,
            "Returns how many runs are of it then, of any state, those that were merged into it too");
        twice.is(1, () -> x.merge(0, 1)).is(1, () -> x.merge(1, 2)).is(0, () -> x.merge(4, 3));
        x.nextDay(1);
        twice.is(1, () -> x.merge(2, 3));
        x.nextDay(1);
        int[][] due = {{0, -1, -1, -1}, {-1, -1, -1, -1}, {-1, 0, -1, -1}, {-1, -1, 0, 0}, {-1, -1, -1, -1}};
        for (int i = 0; i < due.length; i++) {
            for (int j = 0; j < due[i].length; j++) {
                int category = i;
                int day = j;
                if (due[i][j] < 0) {
                    twice.noElement(() -> x.recordOn(category, day));
                } else {
                    twice.is(due[i][j], () -> x.recordOn(category, day));
                }
            }
        }
        twice.is(2, () -> x.stood(0, 3)).is(0, () -> x.stood(0, 1));
    }

    private static void boardOfADay() {
        Speedrunnery x = Houses.withCategories(2);
        Houses.handWait(x, 0, 0, 5);
        Houses.handWait(x, 1, 0, 4);
        Houses.handWait(x, 2, 1, 3);
        x.nextDay(2);
        Sentence board = Sentence.terms("On the board of a category on a day are the runs that were verified on this day or"
            + " earlier, are of this category then, whose player was not banned on this day or earlier, and whose movies fit by"
            + " the rules as they are on this day");
        x.verify(0, 4);
        x.verify(1, 4);
        x.verify(2, 4);
        board.noElement(() -> x.recordOn(0, 2)).is('v', () -> x.verify(0, 5)).is(0, () -> x.recordOn(0, 2))
            .noElement(() -> x.recordOn(0, 1));
        x.nextDay(1);
        x.verify(1, 5);
        board.is(1, () -> x.recordOn(0, 3)).is(0, () -> x.recordOn(0, 2));
        x.nextDay(1);
        x.verify(2, 5);
        board.is(1, () -> x.recordOn(0, 4)).is(2, () -> x.recordOn(1, 4)).noElement(() -> x.recordOn(1, 3));
        x.nextDay(1);
        x.ban(1);
        board.is(1, () -> x.recordOn(0, 4)).is(0, () -> x.recordOn(0, 5)).is(0, () -> x.ranked(0, 0, true))
            .is(-1, () -> x.ranked(0, 1, true));
    }

    private static void boardByRules() {
        Speedrunnery x = Houses.row(1);
        x.door(1, 0, 10, 0, 0, 4);
        x.putItem(1, 2);
        x.category();
        Houses.postWait(x, 0, 0, 50);
        Houses.walk(x, 0, 1);
        Houses.post(x, 1, 0);
        x.nextDay(1);
        Sentence fit = Sentence.terms("and whose movies fit by the rules as they are on this day");
        fit.is(1, () -> x.ranked(0, 0, true)).is(1, () -> x.rule(0, 4, 0, 0, 'r')).is(-1, () -> x.ranked(0, 1, true))
            .is(2, () -> x.rule(0, 0, 0, 16, 'r')).is(0, () -> x.ranked(0, 0, true)).is(-1, () -> x.ranked(0, 1, true))
            .is(3, () -> x.rule(0, 0, 1, 0, 'r')).is(-1, () -> x.ranked(0, 0, true)).is(1, () -> x.recordOn(0, 0));
        x.nextDay(1);
        fit.is(-1, () -> x.ranked(0, 0, true)).is(4, () -> x.rule(0, 0, 0, 239, 'r')).is(1, () -> x.ranked(0, 0, true));
    }

    /** Six runs: some of one time, some of these verified on one day, and the numbers against it. */
    private static void boardOrder() {
        Speedrunnery x = Houses.withCategories(1);
        int[] frames = {8, 8, 8, 7, 9, 8};
        for (int i = 0; i < 6; i++) {
            Houses.handWait(x, i, 0, frames[i]);
            x.verify(i, (i + 1) % 6);
        }
        int[][] verified = {{4, 5}, {2, 1}, {0}, {3}};
        for (int[] onOneDay : verified) {
            for (int run : onOneDay) {
                x.verify(run, (run + 2) % 6);
            }
            x.nextDay(1);
        }
        Sentence order = Sentence.terms("They are in the order of their times by the clock of these rules, then of the days of"
            + " verifying, then of numbers");
        int[] due = {3, 5, 1, 2, 0, 4, -1};
        for (int i = 0; i < due.length; i++) {
            int at = i;
            order.is(due[at], () -> x.ranked(0, at, true)).is(due[at], () -> x.ranked(0, at, false));
        }
        int[] records = {5, 5, 5, 3};
        for (int day = 0; day < 4; day++) {
            int d = day;
            order.is(records[d], () -> x.recordOn(0, d));
        }
    }

    private static void obsolete() {
        Speedrunnery x = Houses.withCategories(1);
        Houses.postWait(x, 0, 0, 9);
        Sentence ahead = Sentence.terms("A run is obsolete if its player has one ahead of it");
        ahead.is(0, () -> x.ranked(0, 0, false));
        Houses.postWait(x, 0, 0, 9);
        ahead.is(0, () -> x.ranked(0, 0, false)).is(-1, () -> x.ranked(0, 1, false)).is(1, () -> x.ranked(0, 1, true));
        Houses.postWait(x, 1, 0, 8);
        Houses.postWait(x, 1, 0, 10);
        ahead.is(2, () -> x.ranked(0, 0, false)).is(0, () -> x.ranked(0, 1, false)).is(-1, () -> x.ranked(0, 2, false));
        Houses.postWait(x, 0, 0, 1);
        int[] all = {4, 2, 0, 1, 3, -1};
        for (int i = 0; i < all.length; i++) {
            int at = i;
            ahead.is(all[at], () -> x.ranked(0, at, true));
        }
        ahead.is(4, () -> x.ranked(0, 0, false)).is(2, () -> x.ranked(0, 1, false)).is(-1, () -> x.ranked(0, 2, false));
        Houses.handWait(x, 2, 0, 1);
        Houses.postWait(x, 2, 0, 2);
        ahead.is(6, () -> x.ranked(0, 1, false));
    }

    private static void recordOfADay() {
        Speedrunnery x = Houses.withCategories(1);
        Houses.postWait(x, 0, 0, 9);
        x.nextDay(1);
        Houses.postWait(x, 1, 0, 9);
        Houses.postWait(x, 2, 0, 8);
        x.nextDay(1);
        x.ban(2);
        Sentence.terms("The record of a day is the first one")
            .is(0, () -> x.recordOn(0, 0)).is(2, () -> x.recordOn(0, 1)).is(0, () -> x.recordOn(0, 2));
    }

    private static void submitCalls() {
        Speedrunnery x = Houses.withCategories(2);
        Sentence none = Sentence.of(26, "if there is no such player or category");
        none.index(NO_PLAYERS, p -> x.submit(p, 0)).index(Sentence.outside(0, 1), c -> x.submit(0, c))
            .index(() -> new Speedrunnery().submit(0, 0));
        Sentence.of(26, "Returns the number of the run").is(0, () -> x.submit(0, 1)).is(1, () -> x.submit(5, 0)).is(2, x::runs);
    }

    private static void submitRefused() {
        Speedrunnery x = Houses.row(1);
        x.door(0, 0, 1, 0, 0, 6);
        x.category();
        x.category();
        Sentence no = Sentence.of(26, "if it does not fit, the category was merged, or the player is banned");
        Houses.walk(x, 0);
        no.unsupported(() -> x.submit(0, 0));
        Houses.walk(x, 0, 0);
        no.unsupported(() -> x.submit(0, 0));
        Houses.walk(x, 1);
        x.rule(0, 0, 0, 64, 'r');
        no.unsupported(() -> x.submit(0, 0));
        x.rule(0, 1, 0, 0, 'r');
        no.unsupported(() -> x.submit(0, 0));
        x.rule(0, 0, 0, 0, 'r');
        x.ban(0);
        no.unsupported(() -> x.submit(0, 0)).is(0, () -> x.submit(1, 0));
        x.merge(0, 1);
        no.unsupported(() -> x.submit(1, 0)).is(1, () -> x.submit(1, 1)).unsupported(() -> x.submit(0, 1));
        Sentence full = Sentence.of(26, "if there are 24 runs");
        for (int i = 2; i < 24; i++) {
            int due = i;
            full.is(due, () -> x.submit(1, 1));
        }
        full.state(() -> x.submit(1, 1)).state(() -> x.submit(5, 1));
    }

    private static void verifyCalls() {
        Speedrunnery x = Houses.withCategories(1);
        Sentence none = Sentence.of(27, "if there is no such run or player");
        none.index(() -> x.verify(0, 0));
        x.submit(0, 0);
        x.submit(5, 0);
        none.index(Sentence.outside(0, 1), r -> x.verify(r, 1)).index(NO_PLAYERS, p -> x.verify(0, p)).index(() -> x.verify(24, 1));
        Sentence no = Sentence.of(27,
            "if it is not submitted, it is the own one of this player, or this one has verified it");
        no.unsupported(() -> x.verify(0, 0)).unsupported(() -> x.verify(1, 5)).is('s', () -> x.verify(0, 5))
            .unsupported(() -> x.verify(0, 5)).is('s', () -> x.verify(1, 0)).is('v', () -> x.verify(0, 4))
            .unsupported(() -> x.verify(0, 3)).unsupported(() -> x.verify(0, 4)).is(true, () -> x.reject(1, 4))
            .unsupported(() -> x.verify(1, 4)).unsupported(() -> x.verify(1, 3));
        Sentence.of(27, "Returns its state then").is(2, () -> x.submit(3, 0)).is('s', () -> x.verify(2, 0)).is('v', () -> x.verify(2, 1));
    }

    private static void rejectCalls() {
        Speedrunnery x = Houses.withCategories(1);
        Sentence none = Sentence.of(28, "if there is no such run or player");
        none.index(() -> x.reject(0, 0));
        x.submit(0, 0);
        x.submit(5, 0);
        x.submit(5, 0);
        none.index(Sentence.outside(0, 2), r -> x.reject(r, 1)).index(NO_PLAYERS, p -> x.reject(0, p)).index(() -> x.reject(24, 1));
        x.verify(1, 3);
        Sentence.of(28, "Returns true if somebody had verified it").is(false, () -> x.reject(0, 5)).is(true, () -> x.reject(1, 0));
        x.verify(2, 1);
        x.verify(2, 3);
        Sentence.of(28, "if it is not submitted, or it is the own one of this player")
            .unsupported(() -> x.reject(0, 1)).unsupported(() -> x.reject(2, 1)).unsupported(() -> x.reject(2, 0))
            .is(3, () -> x.submit(4, 0)).unsupported(() -> x.reject(3, 4)).is('s', () -> x.stateOf(3));
        Sentence.of(29, "if there is no such run").index(Sentence.outside(0, 3), x::stateOf)
            .index(() -> new Speedrunnery().stateOf(0));
        Sentence.of(29, "Returns s, v or x").is('x', () -> x.stateOf(0)).is('v', () -> x.stateOf(2)).is('s', () -> x.stateOf(3));
    }

    private static void banCalls() {
        Speedrunnery x = Houses.withCategories(2);
        Sentence.of(30, "if there is no such player").index(NO_PLAYERS, x::ban);
        Houses.post(x, 0, 0);
        Houses.post(x, 0, 1);
        Houses.post(x, 1, 1);
        x.submit(0, 0);
        x.reject(x.submit(0, 0), 1);
        x.rule(0, 0, 5, 0, 'r');
        Sentence.of(30, "Returns how many runs of the player are verified")
            .is(2, () -> x.ban(0)).is(0, () -> x.ban(5)).is(1, () -> x.ban(1));
        Sentence banned = Sentence.of(30, "if the player is banned");
        banned.unsupported(() -> x.ban(0)).unsupported(() -> x.ban(5)).is(0, () -> x.ban(4));
        x.nextDay(100);
        banned.unsupported(() -> x.ban(0)).is(0, () -> x.ban(3));
    }

    private static void mergeCalls() {
        Speedrunnery x = Houses.withCategories(3);
        Sentence.of(31, "if there is no such category, for either")
            .index(Sentence.outside(0, 2), c -> x.merge(c, 0)).index(Sentence.outside(0, 2), c -> x.merge(0, c));
        Houses.post(x, 0, 0);
        x.submit(1, 0);
        x.reject(x.submit(2, 0), 1);
        Houses.post(x, 0, 1);
        Sentence count = Sentence.of(31, "Returns how many runs are of it then, of any state");
        count.is(3, () -> x.merge(0, 1)).is(4, () -> x.submit(0, 1)).is(5, () -> x.merge(1, 2));
        Sentence.of(31, "if both are the same").argument(new int[] {0, 1, 2}, c -> x.merge(c, c));
    }

    private static void mergeRefused() {
        Speedrunnery x = Houses.withCategories(5);
        Sentence no = Sentence.of(31, "if one of them was merged");
        no.is(0, () -> x.merge(0, 1)).unsupported(() -> x.merge(0, 1)).unsupported(() -> x.merge(0, 2))
            .unsupported(() -> x.merge(2, 0)).unsupported(() -> x.merge(1, 0)).is(0, () -> x.merge(2, 1));
        x.nextDay(1);
        no.unsupported(() -> x.merge(2, 3)).unsupported(() -> x.merge(3, 2)).is(0, () -> x.merge(1, 3))
            .unsupported(() -> x.merge(1, 4)).is(0, () -> x.merge(3, 4)).unsupported(() -> x.merge(4, 3));
    }

    private static void nextDayCalls() {
        Speedrunnery x = Houses.withCategories(1);
        Sentence.of(32, "`days`: how many, 1 to 100").is(1, () -> x.nextDay(1)).is(101, () -> x.nextDay(100))
            .argument(Sentence.outside(1, 100), x::nextDay);
        Sentence.of(32, "Returns the day then").is(150, () -> x.nextDay(49)).is(200, () -> x.nextDay(50));
        for (int i = 0; i < 47; i++) {
            x.nextDay(100);
        }
        Sentence last = Sentence.of(32, "if it is out of range, or the day would be greater than 5000");
        last.is(4950, () -> x.nextDay(50)).argument(new int[] {0, 51, 52, 99, 100, 101, -1, Houses.LEAST, Houses.GREATEST}, x::nextDay)
            .is(4999, () -> x.nextDay(49)).argument(() -> x.nextDay(2)).is(5000, () -> x.nextDay(1))
            .argument(new int[] {1, 2, 100, 0}, x::nextDay);
        Houses.post(x, 0, 0);
        last.is(0, () -> x.recordOn(0, 5000)).is(1, () -> x.stood(0, 0)).argument(() -> x.recordOn(0, 5001));
    }

    private static void rankedCalls() {
        Speedrunnery x = Houses.withCategories(2);
        Sentence.of(33, "if there is no such category").index(Sentence.outside(0, 1), c -> x.ranked(c, 0, true));
        Sentence.of(33, "if the index is less than 0")
            .argument(new int[] {-1, -2, Houses.LEAST}, i -> x.ranked(0, i, true)).argument(() -> x.ranked(0, -1, false));
        Sentence behind = Sentence.of(33, "Returns the run, -1 behind the last one");
        behind.is(-1, () -> x.ranked(0, 0, true)).is(-1, () -> x.ranked(0, 0, false));
        for (int i = 0; i < 24; i++) {
            Houses.postWait(x, 0, 0, 24 - i);
        }
        Sentence.of(33, "`index`: the index, from 0").is(23, () -> x.ranked(0, 0, true)).is(23, () -> x.ranked(0, 0, false));
        behind.is(0, () -> x.ranked(0, 23, true)).each(-1, new int[] {24, 25, Houses.GREATEST}, i -> x.ranked(0, i, true))
            .each(-1, new int[] {1, 2, Houses.GREATEST}, i -> x.ranked(0, i, false));
        Sentence.of(33, "`withObsolete`: true if obsolete ones count")
            .is(22, () -> x.ranked(0, 1, true)).is(-1, () -> x.ranked(0, 1, false));
    }

    private static void timeCalls() {
        Speedrunnery x = new Speedrunnery();
        x.setRate(0, 4);
        x.door(0, 0, 999, 998, 0, -1);
        x.category();
        for (int i = 0; i < 40; i++) {
            x.input(0);
        }
        x.submit(0, 0);
        x.reject(0, 1);
        x.submit(1, 0);
        Sentence.of(34, "if there is no such run").index(Sentence.outside(0, 1), r -> x.timeOf(r, 'r'));
        Sentence.of(34, "if there is no such clock").argument(NO_CLOCKS, c -> x.timeOf(0, (char) c));
        Sentence.of(34, "Returns the ticks")
            .is(159840L, () -> x.timeOf(0, 'r')).is(160L, () -> x.timeOf(0, 'g')).is(160L, () -> x.timeOf(1, 'g'));
    }

    private static void recordCalls() {
        Speedrunnery x = Houses.withCategories(2);
        x.nextDay(7);
        Houses.post(x, 0, 0);
        x.nextDay(1);
        Sentence.of(35, "if there is no such category").index(Sentence.outside(0, 1), c -> x.recordOn(c, 0));
        Sentence.of(35, "if there is no such day").argument(Sentence.outside(0, 8), d -> x.recordOn(0, d));
        Sentence.of(35, "`day`: the day, from 0 up to this one").is(0, () -> x.recordOn(0, 8)).noElement(() -> x.recordOn(0, 0));
        Sentence.of(35, "if the board was empty")
            .noElement(() -> x.recordOn(0, 6)).noElement(() -> x.recordOn(1, 7)).noElement(() -> x.recordOn(1, 8));
        Sentence.of(35, "Returns the run").is(0, () -> x.recordOn(0, 7));
    }

    private static void stoodCalls() {
        Speedrunnery x = Houses.withCategories(2);
        Houses.postWait(x, 0, 0, 9);
        Houses.handWait(x, 1, 0, 9);
        Sentence.of(36, "if there is no such run or category")
            .index(Sentence.outside(0, 1), r -> x.stood(r, 0)).index(Sentence.outside(0, 1), c -> x.stood(0, c));
        Sentence days = Sentence.of(36, "Returns the number of days");
        days.is(1, () -> x.stood(0, 0)).is(0, () -> x.stood(1, 0)).is(0, () -> x.stood(0, 1));
        x.nextDay(100);
        days.is(101, () -> x.stood(0, 0)).is(2, () -> Houses.postWait(x, 1, 0, 8)).is(100, () -> x.stood(0, 0))
            .is(1, () -> x.stood(2, 0));
        x.nextDay(10);
        days.is(1, () -> x.ban(1)).is(10, () -> x.stood(2, 0)).is(101, () -> x.stood(0, 0));
        for (int i = 0; i < 48; i++) {
            x.nextDay(100);
        }
        x.nextDay(90);
        days.is(4991, () -> x.stood(0, 0)).is(10, () -> x.stood(2, 0)).is(1, () -> x.rule(0, 0, 1, 0, 'r'))
            .is(4990, () -> x.stood(0, 0));
    }

    private static void counts() {
        Speedrunnery x = Houses.withCategories(1);
        Sentence number = Sentence.of(37, "Returns the number of runs");
        Sentence share = Sentence.of(38, "Returns their number divided by that of all, both converted to float");
        number.is(0, x::runs);
        Sentence.of(38, "if there are none").arithmetic(x::verifiedShare);
        x.submit(0, 0);
        number.is(1, x::runs);
        share.is(0.0f, x::verifiedShare);
        x.verify(0, 1);
        share.is(0.0f, x::verifiedShare).is('v', () -> x.verify(0, 2)).is(1.0f, x::verifiedShare);
        x.reject(x.submit(0, 0), 1);
        share.is(0.5f, x::verifiedShare);
        x.submit(1, 0);
        share.is(1.0f / 3.0f, x::verifiedShare);
        x.ban(0);
        share.is(1.0f / 3.0f, x::verifiedShare);
        for (int i = 3; i < 24; i++) {
            x.submit(2, 0);
        }
        number.is(24, x::runs);
        share.is(1.0f / 24.0f, x::verifiedShare);
    }

    private static void meanCalls() {
        Speedrunnery x = Houses.withCategories(2);
        Sentence.of(39, "if there is no such category").index(Sentence.outside(0, 1), x::meanTime);
        Sentence none = Sentence.of(39, "if there are none");
        none.arithmetic(() -> x.meanTime(0)).is(0, () -> Houses.handWait(x, 0, 0, 1)).arithmetic(() -> x.meanTime(0));
        Sentence mean = Sentence.of(39, "Returns the sum divided by their number, both converted to double");
        mean.is(1, () -> Houses.post(x, 0, 0)).is(1.0, () -> x.meanTime(0)).is(2, () -> Houses.postWait(x, 0, 0, 2))
            .is(1.5, () -> x.meanTime(0)).is(3, () -> Houses.postWait(x, 1, 0, 2)).is(5.0 / 3.0, () -> x.meanTime(0));
        none.is(1, () -> x.ban(1)).is(1.5, () -> x.meanTime(0)).is(2, () -> x.ban(0)).arithmetic(() -> x.meanTime(0));
        Speedrunnery y = Houses.withCategories(1);
        Houses.post(y, 0, 0);
        mean.is(0.0, () -> y.meanTime(0));
    }

    private static void isSound() {
        Sentence sound = Sentence.of(40, "Returns true if so");
        sound.is(true, () -> new Speedrunnery().isSound());
        Speedrunnery x = Houses.row(5);
        for (int i = 0; i < 5; i++) {
            x.category();
            x.rule(i, i == 4 ? 1 : 0, i, 0, i % 2 == 0 ? 'r' : 'g');
        }
        sound.is(true, x::isSound);
        x.erase();
        for (int i = 0; i < 4; i++) {
            Houses.post(x, i, i);
            x.input(i);
        }
        sound.is(true, x::isSound).is(40L, () -> x.ticks('r')).is(4, x::ends);
        for (int i = 0; i < 5; i++) {
            int category = i;
            sound.is(category < 4 ? category : -1, () -> x.ranked(category, 0, true)).is(true, x::isSound);
        }
        x.nextDay(1);
        x.rule(1, 0, 5, 0, 'r');
        x.merge(2, 3);
        x.ban(0);
        sound.is(true, x::isSound).is(-1, () -> x.ranked(1, 0, true)).is(3, () -> x.ranked(3, 0, true));
    }
}
