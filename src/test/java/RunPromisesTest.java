/** Promises 26 to 40: runs, bans, mergers, days, boards and records. */
final class RunPromisesTest {
    /** A game of one door, 10 frames long with 4 of loading, and two categories that end in 1. */
    private static Speedrunnery small() {
        Speedrunnery x = new Speedrunnery();
        x.door(0, 1, 10, 4, 0, -1);
        x.door(0, 1, 9, 0, 0, 2);
        x.category();
        x.category();
        x.rule(0, 0, 1, 0, 'r');
        x.rule(1, 0, 1, 0, 'g');
        return x;
    }

    /** Submits a movie of a wait and a door, and returns its run. */
    private static int hand(Speedrunnery x, int player, int category, int wait, int door) {
        x.erase();
        if (wait > 0) {
            x.pause(wait);
        }
        x.input(door);
        return x.submit(player, category);
    }

    private static int post(Speedrunnery x, int player, int category, int wait, int door) {
        int run = hand(x, player, category, wait, door);
        x.verify(run, (player + 1) % 6);
        x.verify(run, (player + 2) % 6);
        return run;
    }

    private static void submit() {
        Speedrunnery x = small();
        Check.unsupported("26: does not fit", () -> x.submit(0, 0));
        Check.is("37: none yet", 0, x::runs);
        x.input(0);
        Check.index("26: player 6", () -> x.submit(6, 0));
        Check.index("26: player -1", () -> x.submit(-1, 0));
        Check.index("26: category 2", () -> x.submit(0, 2));
        Check.index("26: category -1", () -> x.submit(0, -1));
        Check.is("26: first", 0, () -> x.submit(5, 1));
        Check.is("26: the same movie again", 1, () -> x.submit(5, 1));
        x.pause(3);
        Check.is("26: the run stays as it was", 10L, () -> x.timeOf(0, 'r'));
        Check.is("26: the movie stays as it is", 13L, () -> x.ticks('r'));
        x.erase();
        Check.is("26: also when it is erased", 6L, () -> x.timeOf(1, 'g'));
        x.input(1);
        x.rule(0, 0, 1, 4, 'r');
        Check.unsupported("26: barred", () -> x.submit(0, 0));
        x.ban(3);
        Check.unsupported("26: banned", () -> x.submit(3, 1));
        x.merge(0, 1);
        x.erase();
        x.input(0);
        Check.unsupported("26: merged", () -> x.submit(0, 0));
        for (int i = 2; i < 24; i++) {
            int due = i;
            Check.is("26: run " + i, due, () -> x.submit(due % 3, 1));
        }
        Check.state("26: run 24", () -> x.submit(0, 1));
        Check.unsupported("26: banned ahead of 24", () -> x.submit(3, 1));
        Check.is("37: all", 24, x::runs);
    }

    private static void verify() {
        Speedrunnery x = small();
        Check.index("27: no run", () -> x.verify(0, 9));
        hand(x, 2, 0, 0, 0);
        Check.index("27: run -1", () -> x.verify(-1, 0));
        Check.index("27: player 6", () -> x.verify(0, 6));
        Check.index("27: player -1", () -> x.verify(0, -1));
        Check.unsupported("27: the own one", () -> x.verify(0, 2));
        x.ban(4);
        Check.is("27: by one, though banned", 's', () -> x.verify(0, 4));
        Check.is("29: still", 's', () -> x.stateOf(0));
        Check.unsupported("27: by the same", () -> x.verify(0, 4));
        x.nextDay(3);
        Check.is("27: by two", 'v', () -> x.verify(0, 0));
        Check.is("29: then", 'v', () -> x.stateOf(0));
        Check.noElement("27: not on the day of the first", () -> x.recordOn(0, 2));
        Check.is("27: on the day of the second", 0, () -> x.recordOn(0, 3));
        Check.unsupported("27: by a third", () -> x.verify(0, 1));
        hand(x, 2, 0, 0, 0);
        x.reject(1, 3);
        Check.unsupported("27: a rejected one", () -> x.verify(1, 0));
    }

    private static void reject() {
        Speedrunnery x = small();
        Check.index("28: no run", () -> x.reject(0, 9));
        hand(x, 2, 0, 0, 0);
        hand(x, 2, 0, 0, 0);
        hand(x, 2, 0, 0, 0);
        Check.index("28: player 6", () -> x.reject(0, 6));
        Check.index("28: player -1", () -> x.reject(0, -1));
        Check.unsupported("28: the own one", () -> x.reject(0, 2));
        Check.is("28: nobody had", false, () -> x.reject(0, 1));
        Check.is("29: rejected", 'x', () -> x.stateOf(0));
        Check.unsupported("28: twice", () -> x.reject(0, 1));
        x.verify(1, 1);
        Check.is("28: one who verified it", true, () -> x.reject(1, 1));
        x.verify(2, 1);
        x.verify(2, 3);
        Check.unsupported("28: verified", () -> x.reject(2, 4));
        Check.is("29: stays", 'v', () -> x.stateOf(2));
        Check.index("29: run 3", () -> x.stateOf(3));
        Check.index("29: run -1", () -> x.stateOf(-1));
        Check.is("28: only the verified one is ranked", 2, () -> x.ranked(0, 0, true));
    }

    private static void ban() {
        Speedrunnery x = small();
        Check.index("30: player 6", () -> x.ban(6));
        Check.index("30: player -1", () -> x.ban(-1));
        post(x, 0, 0, 0, 0);
        post(x, 0, 1, 5, 0);
        post(x, 1, 0, 7, 0);
        hand(x, 0, 0, 0, 0);
        x.nextDay(4);
        Check.is("30: of any category, verified only", 2, () -> x.ban(0));
        Check.unsupported("30: twice", () -> x.ban(0));
        Check.is("30: none", 0, () -> x.ban(5));
        Check.is("30: off the board", 2, () -> x.ranked(0, 0, true));
        Check.is("30: alone there", -1, () -> x.ranked(0, 1, true));
        Check.is("30: on it ahead of the ban", 0, () -> x.recordOn(0, 3));
        Check.is("30: not on the day", 2, () -> x.recordOn(0, 4));
        Check.is("30: can still verify", 's', () -> x.verify(3, 5));
        Check.is("30: can still be verified", 'v', () -> x.verify(3, 4));
        Check.is("30: and stays off", -1, () -> x.ranked(0, 1, true));
        x.nextDay(1);
        Check.unsupported("30: ever after", () -> x.ban(0));
    }

    private static void merge() {
        Speedrunnery x = small();
        x.category();
        x.rule(2, 0, 1, 4, 'g');
        Check.index("31: category 3", () -> x.merge(3, 3));
        Check.index("31: into 3", () -> x.merge(0, 3));
        Check.index("31: category -1", () -> x.merge(-1, 0));
        Check.index("31: into -1", () -> x.merge(0, -1));
        Check.argument("31: both the same", () -> x.merge(0, 0));
        int late = hand(x, 3, 0, 1, 0);
        post(x, 0, 0, 0, 0);
        post(x, 1, 0, 0, 1);
        post(x, 2, 1, 0, 0);
        x.reject(hand(x, 2, 1, 0, 0), 1);
        x.nextDay(5);
        Check.is("31: of any state", 3, () -> x.merge(0, 1));
        Check.argument("31: the same ahead of merged", () -> x.merge(0, 0));
        Check.unsupported("31: merged", () -> x.merge(0, 2));
        Check.unsupported("31: into merged", () -> x.merge(2, 0));
        Check.is("31: nothing on the old board", -1, () -> x.ranked(0, 0, true));
        Check.is("31: on the new one by its rules", 1, () -> x.ranked(1, 0, true));
        Check.is("31: then of later numbers", 3, () -> x.ranked(1, 1, true));
        Check.is("31: the slower one", 2, () -> x.ranked(1, 2, true));
        Check.is("31: the old board stood", 2, () -> x.recordOn(0, 4));
        Check.noElement("31: until the day of the merger", () -> x.recordOn(0, 5));
        Check.is("31: the new one ahead of it", 3, () -> x.recordOn(1, 4));
        Check.is("31: the new one on that day", 1, () -> x.recordOn(1, 5));
        x.verify(late, 0);
        x.verify(late, 1);
        Check.is("31: what is verified later comes there too", late, () -> x.ranked(1, 2, true));
        x.nextDay(2);
        Check.is("31: those merged into it too", 5, () -> x.merge(1, 2));
        Check.is("31: by the last rules", 1, () -> x.ranked(2, 0, true));
        Check.is("31: one is barred there", -1, () -> x.ranked(2, 3, true));
        Check.is("31: the middle one between", 1, () -> x.recordOn(1, 6));
        Check.is("36: in the middle", 2, () -> x.stood(1, 1));
        Check.is("36: in the last", 1, () -> x.stood(1, 2));
        Check.is("36: in the first", 5, () -> x.stood(2, 0));
        Check.is("23: a merged one keeps its rules", 9L, () -> x.route(0));
        Check.is("20: and takes splits", 1, () -> x.split(0, 0));
    }

    private static void nextDay() {
        Speedrunnery x = new Speedrunnery();
        Check.argument("32: 0", () -> x.nextDay(0));
        Check.argument("32: 101", () -> x.nextDay(101));
        Check.argument("32: less than 0", () -> x.nextDay(-1));
        Check.argument("32: the least", () -> x.nextDay(Integer.MIN_VALUE));
        Check.argument("32: the greatest", () -> x.nextDay(Integer.MAX_VALUE));
        Check.is("32: one", 1, () -> x.nextDay(1));
        for (int day = 101; day < 5000; day += 100) {
            int due = day;
            Check.is("32: day " + day, due, () -> x.nextDay(100));
        }
        Check.argument("32: day 5001", () -> x.nextDay(100));
        Check.is("32: day 5000", 5000, () -> x.nextDay(99));
        Check.argument("32: no day more", () -> x.nextDay(1));
    }

    private static void ranked() {
        Speedrunnery x = small();
        Check.index("33: category 2", () -> x.ranked(2, -1, true));
        Check.index("33: category -1", () -> x.ranked(-1, 0, true));
        Check.argument("33: index -1", () -> x.ranked(0, -1, false));
        Check.is("33: empty", -1, () -> x.ranked(0, 0, false));
        int slow = post(x, 0, 0, 50, 0);
        int other = post(x, 1, 0, 20, 0);
        int tied = hand(x, 2, 0, 20, 0);
        int quick = post(x, 0, 0, 5, 0);
        int tiedToo = post(x, 3, 0, 20, 0);
        x.nextDay(1);
        x.verify(tied, 0);
        x.verify(tied, 1);
        int[] all = {quick, other, tiedToo, tied, slow, -1};
        int[] best = {quick, other, tiedToo, tied, -1, -1};
        for (int i = 0; i < all.length; i++) {
            int index = i;
            Check.is("33: with obsolete ones, " + i, all[index], () -> x.ranked(0, index, true));
            Check.is("33: without them, " + i, best[index], () -> x.ranked(0, index, false));
        }
        Check.is("33: far behind", -1, () -> x.ranked(0, Integer.MAX_VALUE, true));
        int game = post(x, 4, 0, 18, 1);
        Check.is("33: by the real clock", game, () -> x.ranked(0, 1, true));
        x.rule(0, 0, 1, 0, 'g');
        Check.is("33: by the game clock", game, () -> x.ranked(0, 4, true));
        x.rule(0, 0, 1, 4, 'g');
        Check.is("33: barred now", slow, () -> x.ranked(0, 4, true));
        Check.is("33: of this category only", -1, () -> x.ranked(1, 0, true));
    }

    private static void timeOf() {
        Speedrunnery x = small();
        Check.index("34: run ahead of clock", () -> x.timeOf(0, 'x'));
        hand(x, 0, 0, 5, 0);
        x.reject(0, 1);
        Check.is("34: real", 15L, () -> x.timeOf(0, 'r'));
        Check.is("34: game", 11L, () -> x.timeOf(0, 'g'));
        Check.argument("34: no clock", () -> x.timeOf(0, 'x'));
        Check.index("34: run -1", () -> x.timeOf(-1, 'r'));
        Check.index("34: run 1", () -> x.timeOf(1, 'r'));
    }

    private static void recordOn() {
        Speedrunnery x = small();
        x.nextDay(3);
        Check.index("35: category 2", () -> x.recordOn(2, 9));
        Check.index("35: category -1", () -> x.recordOn(-1, 0));
        Check.argument("35: tomorrow", () -> x.recordOn(0, 4));
        Check.argument("35: day -1", () -> x.recordOn(0, -1));
        Check.noElement("35: empty", () -> x.recordOn(0, 3));
        post(x, 0, 0, 50, 0);
        x.nextDay(10);
        post(x, 1, 0, 40, 0);
        x.nextDay(10);
        post(x, 0, 0, 40, 0);
        Check.noElement("35: ahead of all", () -> x.recordOn(0, 2));
        Check.is("35: the first", 0, () -> x.recordOn(0, 3));
        Check.is("35: between", 0, () -> x.recordOn(0, 12));
        Check.is("35: the second", 1, () -> x.recordOn(0, 13));
        Check.is("35: a tie stays with the earlier", 1, () -> x.recordOn(0, 23));
        Check.is("36: the first stood", 10, () -> x.stood(0, 0));
        Check.is("36: the second stands", 11, () -> x.stood(1, 0));
        Check.is("36: the third never", 0, () -> x.stood(2, 0));
        Check.is("36: not elsewhere", 0, () -> x.stood(0, 1));
        Check.index("36: run 3", () -> x.stood(3, 0));
        Check.index("36: run -1", () -> x.stood(-1, 0));
        Check.index("36: category 2", () -> x.stood(0, 2));
        Check.index("36: category -1", () -> x.stood(0, -1));
        x.rule(0, 0, 0, 0, 'r');
        Check.is("36: today by the rules of today", 10, () -> x.stood(1, 0));
        for (int i = 0; i < 49; i++) {
            x.nextDay(100);
        }
        x.nextDay(77);
        x.rule(0, 0, 1, 0, 'r');
        Check.is("35: on day 5000", 1, () -> x.recordOn(0, 5000));
        Check.is("36: again on the last day", 11, () -> x.stood(1, 0));
        firstDay();
    }

    private static void firstDay() {
        Speedrunnery x = small();
        post(x, 0, 0, 0, 0);
        Check.is("35: on day 0", 0, () -> x.recordOn(0, 0));
        Check.is("36: on day 0", 1, () -> x.stood(0, 0));
        Check.is("38: all", 1.0f, x::verifiedShare);
        hand(x, 1, 0, 0, 0);
        Check.is("38: half", 0.5f, x::verifiedShare);
    }

    /** As many days as calls: the record stands on each. */
    private static void manyDays() {
        Speedrunnery x = new Speedrunnery();
        x.category();
        x.submit(0, 0);
        x.verify(0, 1);
        x.verify(0, 2);
        for (int i = 0; i < 507; i++) {
            x.nextDay(i % 2 + 1);
        }
        Check.is("36: on many days", 761, () -> x.stood(0, 0));
    }

    private static void shares() {
        Speedrunnery x = small();
        Check.arithmetic("38: none", x::verifiedShare);
        Check.arithmetic("39: none", () -> x.meanTime(0));
        Check.index("39: category 2", () -> x.meanTime(2));
        Check.index("39: category -1", () -> x.meanTime(-1));
        hand(x, 0, 0, 0, 0);
        Check.is("38: none of one", 0.0f, x::verifiedShare);
        Check.arithmetic("39: not verified", () -> x.meanTime(0));
        post(x, 0, 0, 1, 0);
        hand(x, 0, 1, 0, 0);
        Check.is("38: one of three", 1.0f / 3.0f, x::verifiedShare);
        post(x, 0, 0, 2, 0);
        post(x, 0, 0, 5, 1);
        Check.is("39: obsolete ones too", (11 + 12 + 14) / 3.0, () -> x.meanTime(0));
        x.rule(0, 0, 1, 0, 'g');
        Check.is("39: by the clock of this day", (7 + 8 + 14) / 3.0, () -> x.meanTime(0));
        x.ban(0);
        Check.is("38: banned ones count", 3.0f / 5.0f, x::verifiedShare);
        Check.arithmetic("39: banned ones do not", () -> x.meanTime(0));
    }

    private static void isSound() {
        Check.is("40: nothing", true, () -> new Speedrunnery().isSound());
        Speedrunnery x = small();
        Check.is("40: no runs", true, x::isSound);
        post(x, 0, 0, 1, 1);
        x.rule(0, 0, 1, 4, 'g');
        Check.is("40: what fits no more is on no board", true, x::isSound);
        x.merge(0, 1);
        Check.is("40: merged", true, x::isSound);
        Check.is("40: the movie is not touched", 10L, () -> x.ticks('r'));
    }

    public static void main(String[] args) {
        submit();
        verify();
        reject();
        ban();
        merge();
        nextDay();
        ranked();
        timeOf();
        recordOn();
        manyDays();
        shares();
        isSound();
        Check.end();
    }
}
