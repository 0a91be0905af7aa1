/** Promises 17 to 25: categories, splits, golds and routes. */
final class CategoryPromisesTest {
    /** Rooms in a row with items, a glitch from the first to the last, and one way back. */
    private static Speedrunnery row() {
        Speedrunnery x = new Speedrunnery();
        x.door(0, 1, 60, 20, 0, -1);
        x.door(1, 2, 100, 10, 0, -1);
        x.door(2, 3, 30, 5, 1, -1);
        x.door(0, 3, 10, 0, 0, 6);
        x.door(3, 0, 7, 0, 0, -1);
        x.putItem(1, 0);
        x.putItem(2, 3);
        x.category();
        return x;
    }

    private static void show(Speedrunnery x, int... doors) {
        x.erase();
        for (int door : doors) {
            x.input(door);
        }
    }

    private static void post(Speedrunnery x, int player, int category) {
        int run = x.submit(player, category);
        x.verify(run, (player + 1) % 6);
        x.verify(run, (player + 2) % 6);
    }

    private static void category() {
        Speedrunnery x = row();
        for (int i = 1; i < 5; i++) {
            int due = i;
            Check.is("17: category " + i, due, x::category);
        }
        Check.state("17: a sixth", x::category);
        Check.is("17: the room 0 and no items", '.', () -> x.judge(4));
        x.door(0, 0, 20, 5, 0, 0);
        show(x, 3, 4, 5);
        Check.is("17: no glitch is barred", '.', () -> x.judge(4));
        x.submit(0, 4);
        x.verify(0, 1);
        x.verify(0, 2);
        Check.is("17: the real clock", 37L, () -> x.best(4));
    }

    private static void rule() {
        Speedrunnery x = row();
        Check.is("18: first", 1, () -> x.rule(0, 255, 11, 255, 'g'));
        Check.is("18: on the same day", 2, () -> x.rule(0, 0, 0, 0, 'r'));
        Check.index("18: category 1", () -> x.rule(1, 256, 0, 0, 'r'));
        Check.index("18: category -1", () -> x.rule(-1, 0, 0, 0, 'r'));
        Check.argument("18: must 256", () -> x.rule(0, 256, 0, 0, 'r'));
        Check.argument("18: must -1", () -> x.rule(0, -1, 0, 0, 'r'));
        Check.argument("18: room 12", () -> x.rule(0, 0, 12, 0, 'r'));
        Check.argument("18: room -1", () -> x.rule(0, 0, -1, 0, 'r'));
        Check.argument("18: barred 256", () -> x.rule(0, 0, 0, 256, 'r'));
        Check.argument("18: barred -1", () -> x.rule(0, 0, 0, -1, 'r'));
        Check.argument("18: no clock", () -> x.rule(0, 0, 0, 0, '.'));
        x.nextDay(1);
        Check.is("18: on another day", 3, () -> x.rule(0, 0, 3, 0, 'r'));
        x.category();
        Check.is("18: of each its own", 1, () -> x.rule(1, 0, 3, 0, 'r'));
        x.merge(0, 1);
        Check.unsupported("18: merged", () -> x.rule(0, 0, 0, 0, 'r'));
        Check.argument("18: bad ahead of merged", () -> x.rule(0, 0, 0, 0, 'x'));
        Check.is("18: into which was merged", 2, () -> x.rule(1, 0, 0, 0, 'r'));
        lastOfTheDayCounts();
        firstRulesStay();
    }

    private static void firstRulesStay() {
        Speedrunnery x = row();
        post(x, 0, 0);
        x.nextDay(1);
        x.rule(0, 0, 5, 0, 'r');
        Check.is("18: on day 0 those as it was made", 0, () -> x.recordOn(0, 0));
        Check.noElement("18: on day 1 the others", () -> x.recordOn(0, 1));
    }

    private static void lastOfTheDayCounts() {
        Speedrunnery x = row();
        post(x, 0, 0);
        x.nextDay(10);
        x.rule(0, 0, 5, 0, 'r');
        x.rule(0, 0, 0, 0, 'r');
        Check.is("18: the last of a day counts", 0, () -> x.recordOn(0, 10));
        x.nextDay(10);
        x.rule(0, 0, 5, 0, 'r');
        Check.noElement("18: from the day on", () -> x.recordOn(0, 20));
        Check.is("18: not ahead of it", 0, () -> x.recordOn(0, 19));
        x.nextDay(5);
        Check.noElement("18: and on", () -> x.recordOn(0, 25));
        x.rule(0, 0, 0, 0, 'g');
        Check.is("18: until changed again", 0, () -> x.recordOn(0, 25));
        Check.noElement("18: the day before stays", () -> x.recordOn(0, 24));
        Check.is("18: for the days that it was", 21, () -> x.stood(0, 0));
    }

    private static void judge() {
        Speedrunnery x = row();
        Check.index("19: category 1", () -> x.judge(1));
        Check.index("19: category -1", () -> x.judge(-1));
        x.rule(0, 8, 3, 64, 'r');
        show(x, 3, 3);
        Check.is("19: d ahead of all", 'd', () -> x.judge(0));
        show(x, 3, 4);
        Check.is("19: e ahead of m", 'e', () -> x.judge(0));
        show(x, 3);
        Check.is("19: m ahead of g", 'm', () -> x.judge(0));
        show(x, 0, 1, 2, 4, 3);
        Check.is("19: g", 'g', () -> x.judge(0));
        x.door(3, 3, 1, 0, 0, 1);
        show(x, 0, 1, 2, 4, 3, 5);
        Check.is("19: g, another glitch behind it", 'g', () -> x.judge(0));
        show(x, 0, 1, 2);
        Check.is("19: fits", '.', () -> x.judge(0));
        x.rule(0, 9, 3, 191, 'r');
        Check.is("19: both items, all other glitches", '.', () -> x.judge(0));
        x.rule(0, 10, 3, 0, 'r');
        Check.is("19: one of two items lacks", 'm', () -> x.judge(0));
    }

    private static void split() {
        Speedrunnery x = row();
        Check.index("20: category 1", () -> x.split(1, 0));
        Check.index("20: category -1", () -> x.split(-1, 0));
        Check.index("20: room 12", () -> x.split(0, 12));
        Check.index("20: room -1", () -> x.split(0, -1));
        Check.index("20: no segment 1 yet", () -> x.gold(0, 1));
        for (int i = 1; i <= 4; i++) {
            int due = i;
            Check.is("20: split " + i, due, () -> x.split(0, 11));
        }
        Check.state("20: a fifth", () -> x.split(0, 0));
        Check.index("20: room ahead of four", () -> x.split(0, 12));
    }

    private static void gold() {
        Speedrunnery x = row();
        x.rule(0, 0, 3, 0, 'r');
        show(x, 0, 1, 2);
        post(x, 0, 0);
        Check.is("21: without splits", 190L, () -> x.gold(0, 0));
        Check.is("22: without splits", 190L, () -> x.best(0));
        Check.index("21: segment 1", () -> x.gold(0, 1));
        Check.index("21: segment -1", () -> x.gold(0, -1));
        Check.index("21: category 1", () -> x.gold(1, 0));
        Check.index("22: category 1", () -> x.best(1));
        Check.index("22: category -1", () -> x.best(-1));
        show(x);
        x.pause(50);
        x.input(3);
        x.input(4);
        x.input(0);
        x.input(1);
        x.input(2);
        post(x, 0, 0);
        x.split(0, 1);
        x.split(0, 2);
        Check.is("21: first", 60L, () -> x.gold(0, 0));
        Check.is("21: second", 100L, () -> x.gold(0, 1));
        Check.is("21: last", 30L, () -> x.gold(0, 2));
        show(x, 3);
        post(x, 1, 0);
        Check.is("21: no splits, no gold", 190L, () -> x.best(0));
        Check.index("21: segment 3", () -> x.gold(0, 3));
        x.rule(0, 0, 3, 0, 'g');
        Check.is("21: by the clock of this day", 40L, () -> x.gold(0, 0));
        Check.is("22: by the clock of this day", 155L, () -> x.best(0));
        x.rule(0, 0, 0, 0, 'g');
        Check.noElement("21: no board", () -> x.gold(0, 0));
        Check.noElement("22: no board", () -> x.best(0));
    }

    /** Golds come from different runs, obsolete ones too. */
    private static void bestOfSeveral() {
        Speedrunnery x = row();
        x.rule(0, 0, 2, 0, 'r');
        x.split(0, 1);
        show(x);
        x.pause(5);
        x.input(0);
        x.input(1);
        post(x, 0, 0);
        show(x, 0);
        x.pause(9);
        x.input(1);
        post(x, 0, 0);
        Check.is("21: gold of the obsolete", 60L, () -> x.gold(0, 0));
        Check.is("21: gold of the first", 100L, () -> x.gold(0, 1));
        Check.is("22: less than any run", 160L, () -> x.best(0));
        Check.is("22: the record takes more", 165L, () -> x.timeOf(x.ranked(0, 0, true), 'r'));
        x.ban(0);
        Check.noElement("21: none of the banned", () -> x.gold(0, 0));
    }

    private static void splitOrder() {
        Speedrunnery x = row();
        x.rule(0, 0, 2, 0, 'r');
        show(x, 0, 1);
        post(x, 0, 0);
        x.split(0, 0);
        Check.is("21: the room 0 at 0", 0L, () -> x.gold(0, 0));
        x.split(0, 2);
        x.split(0, 2);
        Check.is("21: the same room twice", 0L, () -> x.gold(0, 2));
        Check.is("21: ends in the last split", 0L, () -> x.gold(0, 3));
        Check.is("22: all the same", 160L, () -> x.best(0));
        x.split(0, 1);
        Check.noElement("21: the order is wrong", () -> x.gold(0, 0));
        Check.noElement("22: the order is wrong", () -> x.best(0));
        Speedrunnery y = row();
        post(y, 0, 0);
        y.split(0, 1);
        Check.noElement("21: never there", () -> y.gold(0, 1));
    }

    private static void route() {
        Speedrunnery x = row();
        Check.is("23: room 0 fits", 0L, () -> x.route(0));
        Check.is("24: no doors", -1, () -> x.routeAt(0, 0));
        x.rule(0, 0, 3, 0, 'r');
        Check.is("23: by the glitch", 10L, () -> x.route(0));
        x.rule(0, 0, 3, 64, 'r');
        Check.is("23: barred", 190L, () -> x.route(0));
        int[] due = {0, 1, 2, -1, -1};
        for (int i = 0; i < due.length; i++) {
            int index = i;
            Check.is("24: door " + i, due[index], () -> x.routeAt(0, index));
        }
        Check.is("24: far behind", -1, () -> x.routeAt(0, Integer.MAX_VALUE));
        x.rule(0, 8, 0, 0, 'g');
        Check.is("23: there and back, without loading", 162L, () -> x.route(0));
        Check.is("24: the last", 4, () -> x.routeAt(0, 3));
        x.rule(0, 2, 0, 0, 'r');
        Check.noElement("23: no such item to be had", () -> x.route(0));
        Check.noElement("24: none", () -> x.routeAt(0, 0));
        Check.argument("24: index ahead of none", () -> x.routeAt(0, -1));
        Check.index("24: category ahead of index", () -> x.routeAt(1, -1));
        Check.index("23: category 1", () -> x.route(1));
        Check.index("23: category -1", () -> x.route(-1));
        Check.is("25: none is shortest of none", true, () -> x.isShortest(0));
        x.rule(0, 0, 3, 0, 'r');
        Check.is("25: so", true, () -> x.isShortest(0));
        Check.index("25: category 1", () -> x.isShortest(1));
        Check.index("25: category -1", () -> x.isShortest(-1));
        x.rule(0, 0, 11, 0, 'r');
        Check.noElement("23: no way", () -> x.route(0));
    }

    /** Every call goes by the rules of this day, not by those of an earlier one. */
    private static void laterDays() {
        Speedrunnery x = row();
        x.split(0, 1);
        x.rule(0, 0, 3, 0, 'r');
        show(x, 0, 1, 2);
        Check.is("26: fits on day 0", 0, () -> x.submit(0, 0));
        x.verify(0, 1);
        x.verify(0, 2);
        x.nextDay(7);
        x.rule(0, 0, 2, 0, 'g');
        Check.is("19: by the rules of this day", 'e', () -> x.judge(0));
        Check.unsupported("26: by the rules of this day", () -> x.submit(0, 0));
        Check.noElement("21: on the board of this day", () -> x.gold(0, 0));
        Check.noElement("22: on the board of this day", () -> x.best(0));
        Check.arithmetic("39: on the board of this day", () -> x.meanTime(0));
        Check.is("33: on the board of this day", -1, () -> x.ranked(0, 0, true));
        show(x, 0, 1);
        post(x, 3, 0);
        Check.is("21: of this day", 40L, () -> x.gold(0, 0));
        Check.is("22: of this day", 130L, () -> x.best(0));
        Check.is("39: of this day", 130.0, () -> x.meanTime(0));
        Check.is("33: of this day", 1, () -> x.ranked(0, 0, true));
        Check.is("23: of this day", 130L, () -> x.route(0));
        Check.is("24: of this day", 1, () -> x.routeAt(0, 1));
        Check.is("25: of this day", true, () -> x.isShortest(0));
        Check.is("40: of this day", true, x::isSound);
        x.ban(3);
        Check.unsupported("26: banned by now", () -> x.submit(3, 0));
    }

    private static void firstOfSeveral() {
        Speedrunnery x = new Speedrunnery();
        x.setRate(2, 2);
        x.door(2, 3, 10, 0, 0, -1);
        x.door(1, 3, 20, 0, 0, -1);
        x.door(0, 2, 10, 0, 0, -1);
        x.door(0, 1, 10, 0, 0, -1);
        x.door(0, 3, 30, 0, 0, -1);
        x.door(0, 2, 10, 9, 0, -1);
        x.category();
        x.rule(0, 0, 3, 0, 'r');
        Check.is("23: all alike", 30L, () -> x.route(0));
        Check.is("24: the first by its first door", 2, () -> x.routeAt(0, 0));
        Check.is("24: then on", 0, () -> x.routeAt(0, 1));
        x.rule(0, 0, 3, 0, 'g');
        Check.is("23: by the other clock", 21L, () -> x.route(0));
        Check.is("24: by the other clock", 5, () -> x.routeAt(0, 0));
    }

    /** More doors than a movie can have inputs: each item is far from the one before. */
    private static void longRoute() {
        Speedrunnery x = new Speedrunnery();
        for (int room = 0; room < 11; room++) {
            x.door(room, room + 1, 1, 0, 0, -1);
        }
        int[] chain = {11, 1, 10, 2, 9, 3, 8, 4};
        for (int i = 0; i < 8; i++) {
            x.putItem(chain[i], i);
        }
        x.door(11, 0, 1, 0, 1, -1);
        for (int room = 1; room < 11; room++) {
            x.door(room, room - 1, 3, 0, room % 2 == 0 ? 7 : 63, -1);
        }
        x.category();
        x.rule(0, 255, 5, 0, 'r');
        Check.is("23: round again", 17L, () -> x.route(0));
        x.rule(0, 0, 11, 0, 'r');
        Check.is("24: eleven doors", 10, () -> x.routeAt(0, 10));
        Check.is("24: and no more", -1, () -> x.routeAt(0, 11));
        Speedrunnery y = new Speedrunnery();
        for (int room = 0; room < 11; room++) {
            y.door(room, room + 1, 999, 0, 0, -1);
        }
        for (int i = 0; i < 8; i++) {
            y.door(11, 0, 999, 0, (1 << i) - 1, i);
        }
        y.setRate(11, 4);
        y.category();
        y.rule(0, 0, 11, 0, 'r');
        Check.is("23: up", 10989L, () -> y.route(0));
    }

    /** The items bar the way until each was fetched, so that one comes through the rooms 9 times. */
    private static void routeBeyondFortyDoors() {
        Speedrunnery x = new Speedrunnery();
        for (int room = 0; room < 7; room++) {
            x.door(room, room + 1, 2, 1, 0, -1);
        }
        x.door(7, 0, 1, 0, 0, -1);
        for (int i = 0; i < 4; i++) {
            x.putItem(8 + i, i);
            x.door(7, 8 + i, 1, 0, (1 << i) - 1, -1);
            x.door(8 + i, 0, 1, 0, 0, -1);
        }
        x.category();
        x.rule(0, 15, 6, 0, 'g');
        Check.is("23: more than 40 doors", 42L, () -> x.route(0));
        Check.is("24: the 42nd", 5, () -> x.routeAt(0, 41));
        Check.is("24: behind the 42nd", -1, () -> x.routeAt(0, 42));
        x.rule(0, 15, 6, 0, 'r');
        Check.is("23: in real time", 76L, () -> x.route(0));
        Check.is("25: few doors do not suffice", true, () -> x.isShortest(0));
    }

    public static void main(String[] args) {
        category();
        rule();
        judge();
        split();
        gold();
        bestOfSeveral();
        splitOrder();
        route();
        laterDays();
        firstOfSeveral();
        longRoute();
        routeBeyondFortyDoors();
        Check.end();
    }
}
