/** The edges of the game and the movie: the terms of these, and promises 1 to 16. */
final class GameEdges {
    private static final int[] NO_ROOMS = Sentence.outside(0, 11);
    private static final int[] NO_WAITS = Sentence.outside(1, 999);
    private static final int[] NO_SUMS = Sentence.outside(0, 255);

    private GameEdges() {
    }

    static void ask() {
        rooms();
        items();
        rates();
        doors();
        loadingAndNeeds();
        gameStays();
        movieLength();
        movieBegins();
        desyncs();
        clocks();
        spheres();
        shuffleOrder();
        shuffleTries();
        shuffleOfAChain();
        newObject();
        doorCalls();
        itemCalls();
        sphereCalls();
        movieCalls();
        playCalls();
    }

    private static void rooms() {
        Speedrunnery x = new Speedrunnery();
        Sentence.terms("There are the rooms 0 to 11 and the items 0 to 7")
            .is(-1, () -> x.itemIn(0))
            .is(-1, () -> x.itemIn(11))
            .index(NO_ROOMS, x::itemIn)
            .is(-1, () -> x.putItem(0, 0))
            .is(-1, () -> x.putItem(11, 7))
            .is(0, () -> x.itemIn(0))
            .is(7, () -> x.itemIn(11))
            .argument(() -> x.putItem(5, 8))
            .argument(() -> x.putItem(5, -2));
    }

    private static void items() {
        Speedrunnery x = new Speedrunnery();
        Sentence none = Sentence.terms("none at first");
        for (int room = 0; room < 12; room++) {
            int r = room;
            none.is(-1, () -> x.itemIn(r));
        }
        Sentence.terms("A room has at most one item")
            .is(-1, () -> x.putItem(4, 1))
            .is(1, () -> x.putItem(4, 2))
            .is(2, () -> x.itemIn(4))
            .is(-1, () -> x.putItem(5, 1));
        Sentence.terms("an item is in at most one room")
            .is(1, () -> x.itemIn(5))
            .is(-1, () -> x.putItem(6, 1))
            .is(-1, () -> x.itemIn(5))
            .is(1, () -> x.itemIn(6))
            .is(2, () -> x.putItem(4, 1))
            .is(-1, () -> x.itemIn(6))
            .is(1, () -> x.itemIn(4));
        Sentence where = Sentence.terms("an item is in at most one room");
        for (int i = 0; i < 12; i++) {
            int room = i;
            int next = (i + 1) % 12;
            x.putItem(room, 7);
            x.putItem(next, 7);
            where.is(-1, () -> x.itemIn(room)).is(7, () -> x.itemIn(next));
        }
    }

    private static void rates() {
        Speedrunnery x = new Speedrunnery();
        Sentence rate = Sentence.terms("A room has a rate from 1 to 4, 1 at first");
        for (int room = 0; room < 12; room++) {
            int r = room;
            rate.is(1, () -> x.setRate(r, 4)).is(4, () -> x.setRate(r, 1))
                .argument(() -> x.setRate(r, 0)).argument(() -> x.setRate(r, 5))
                .is(1, () -> x.setRate(r, 1));
        }
    }

    private static void doors() {
        Speedrunnery x = new Speedrunnery();
        Sentence many = Sentence.terms("At most 24 doors are numbered from 0");
        for (int i = 0; i < 24; i++) {
            int due = i;
            many.is(due, () -> x.door(0, 0, 1, 0, 0, -1));
        }
        many.state(() -> x.door(0, 0, 1, 0, 0, -1)).is(1, () -> x.input(23)).index(() -> x.input(24));

        Speedrunnery y = new Speedrunnery();
        y.door(0, 0, 10, 0, 0, -1);
        y.door(0, 11, 1, 0, 0, -1);
        y.door(11, 11, 1, 0, 0, -1);
        Sentence.terms("each from a room to a room, which may be the same")
            .is(1, () -> y.input(0)).is('.', y::play).is(0, y::ends).is(10L, () -> y.ticks('r'))
            .is(2, () -> y.input(1)).is(3, () -> y.input(2)).is('.', y::play).is(11, y::ends);
        Sentence.terms("with frames from 1 to 999")
            .is(3, () -> y.door(0, 0, 1, 0, 0, -1)).is(4, () -> y.door(0, 0, 999, 0, 0, -1))
            .argument(NO_WAITS, n -> y.door(0, 0, n, 0, 0, -1)).is(5, () -> y.door(0, 0, 2, 0, 0, -1));
    }

    private static void loadingAndNeeds() {
        Speedrunnery x = new Speedrunnery();
        Sentence.terms("of which so many, fewer than all, are loading")
            .is(0, () -> x.door(0, 0, 1, 0, 0, -1)).argument(() -> x.door(0, 0, 1, 1, 0, -1))
            .is(1, () -> x.door(0, 0, 999, 998, 0, -1)).argument(() -> x.door(0, 0, 999, 999, 0, -1))
            .argument(() -> x.door(0, 0, 9, 10, 0, -1))
            .is(1, () -> x.input(1)).is(1L, () -> x.ticks('g')).is(999L, () -> x.ticks('r'));
        x.erase();
        Sentence sum = Sentence.terms("items that it needs, as a sum of 2 to the power of each");
        for (int item = 0; item < 8; item++) {
            int door = 2 + item;
            int needs = 1 << item;
            sum.is(door, () -> x.door(0, 1, 1, 0, needs, -1));
            sum.is(1, () -> x.input(door)).is('i', x::play);
            x.putItem(0, (item + 1) % 8);
            sum.is('i', x::play);
            x.putItem(0, item);
            sum.is('.', x::play);
            x.putItem(0, -1);
            x.erase();
        }
        Speedrunnery y = new Speedrunnery();
        Sentence.terms("and a glitch from 0 to 7 that it takes, or none")
            .is(0, () -> y.door(0, 0, 1, 0, 0, -1)).is(1, () -> y.door(0, 0, 1, 0, 0, 0))
            .is(2, () -> y.door(0, 0, 1, 0, 0, 7))
            .argument(() -> y.door(0, 0, 1, 0, 0, -2)).argument(() -> y.door(0, 0, 1, 0, 0, 8));
        y.category();
        y.rule(0, 0, 0, 255, 'r');
        char[] due = {'.', 'g', 'g'};
        for (int door = 0; door < 3; door++) {
            Houses.walk(y, door);
            int d = door;
            Sentence.terms("a glitch from 0 to 7 that it takes, or none").is(due[d], () -> y.judge(0));
        }
    }

    private static void gameStays() {
        Speedrunnery x = Houses.row(2);
        x.putItem(1, 3);
        x.category();
        Sentence stays = Sentence.terms("As soon as a run was submitted, rooms, doors and items stay as they are");
        x.input(1);
        stays.unsupported(() -> x.submit(0, 0)).is(1, () -> x.setRate(0, 2)).is(3, () -> x.putItem(1, 4))
            .is(2, () -> x.door(1, 0, 5, 0, 0, -1)).is(9, () -> x.shuffle(9));
        x.erase();
        x.submit(0, 0);
        for (int i = 0; i < 2; i++) {
            stays.unsupported(() -> x.setRate(0, 1)).unsupported(() -> x.putItem(1, -1))
                .unsupported(() -> x.door(0, 0, 5, 0, 0, -1)).unsupported(() -> x.shuffle(0))
                .is(4, () -> x.itemIn(1));
            if (i == 0) {
                x.reject(0, 1);
            }
        }
        x.input(0);
        stays.is(20L, () -> x.ticks('r')).is(16, x::had);
    }

    private static void movieLength() {
        Speedrunnery x = Houses.withAllDoors();
        Sentence most = Sentence.terms("A movie has at most 40 inputs: a door, or a wait of 1 to 999 frames");
        for (int i = 1; i <= 40; i++) {
            int due = i;
            most.is(due, () -> due % 2 == 0 ? x.input(due % 24) : x.pause(due == 1 ? 1 : 999));
        }
        most.state(() -> x.input(0)).state(() -> x.pause(1)).is(40, x::erase)
            .argument(NO_WAITS, x::pause).is(0, x::erase)
            .is(1, () -> x.pause(1)).is(2, () -> x.pause(999)).is(1000L, () -> x.ticks('r'));
    }

    private static void movieBegins() {
        Speedrunnery x = Houses.row(1);
        x.door(0, 1, 1, 0, 8, -1);
        x.door(1, 0, 1, 0, 24, -1);
        Sentence.terms("It begins in the room 0").is(0, x::ends).is(1, () -> x.input(0)).is('.', x::play);
        x.putItem(0, 3);
        x.putItem(1, 4);
        x.erase();
        Sentence.terms("the item of a room is had as soon as one is in it")
            .is(8, x::had).is(1, () -> x.input(1)).is('.', x::play).is(24, x::had)
            .is(2, () -> x.input(2)).is('.', x::play);
    }

    private static void desyncs() {
        Speedrunnery x = Houses.row(2);
        x.door(1, 5, 40, 0, 5, -1);
        x.putItem(0, 0);
        x.putItem(2, 1);
        x.putItem(5, 7);
        Houses.walk(x, 0, 2);
        Sentence.terms("A door is gone through if it leads from the room where one is, and one has its items")
            .is('i', x::play).is(1, x::desync);
        x.putItem(1, 2);
        Sentence.terms("A door is gone through if it leads from the room where one is, and one has its items")
            .is('.', x::play).is(5, x::ends);
        x.putItem(1, -1);
        Houses.walk(x, 0, 2, 1);
        x.pause(9);
        Sentence.terms("otherwise the movie desyncs at this input, and is over there")
            .is(1, x::desync).is(1, x::ends).is(1, x::had).is(10L, () -> x.ticks('r')).is(10L, () -> x.ticks('g'));
        Houses.walk(x, 2);
        Sentence.terms("'r' it leads from another room, otherwise 'i'").is('r', x::play);
        Houses.walk(x, 0, 2);
        Sentence.terms("'r' it leads from another room, otherwise 'i'").is('i', x::play);
    }

    private static void clocks() {
        Speedrunnery x = new Speedrunnery();
        x.setRate(0, 4);
        x.setRate(1, 3);
        x.door(0, 1, 7, 5, 0, -1);
        x.pause(100);
        Sentence real = Sentence.terms(
            "The real clock goes on by the frames times the rate of the room from which the door leads, or in which one waits");
        Sentence game = Sentence.terms("the game clock by the frames without loading, likewise");
        real.is(400L, () -> x.ticks('r'));
        game.is(400L, () -> x.ticks('g'));
        x.input(0);
        real.is(428L, () -> x.ticks('r'));
        game.is(408L, () -> x.ticks('g'));
        x.pause(1);
        real.is(431L, () -> x.ticks('r'));
        game.is(411L, () -> x.ticks('g'));
        x.erase();
        for (int i = 0; i < 40; i++) {
            x.pause(999);
        }
        real.is(159840L, () -> x.ticks('r'));
        game.is(159840L, () -> x.ticks('g'));
    }

    private static void spheres() {
        Speedrunnery x = Houses.row(2);
        x.putItem(1, 0);
        x.putItem(2, 1);
        x.putItem(3, 2);
        x.putItem(4, 3);
        x.door(2, 3, 1, 0, 2, -1);
        x.door(0, 4, 1, 0, 0, 5);
        Sentence.terms("Spheres: in each, all items are had that are in rooms to which one comes from the room 0"
            + " by doors without glitches, with the items had in the spheres before")
            .is(0, () -> x.sphereOf(0)).is(0, () -> x.sphereOf(1)).is(1, () -> x.sphereOf(2)).noElement(() -> x.sphereOf(3));
        Sentence none = Sentence.terms("those in which no new one is had are none");
        none.is(2, x::spheres).is(0, () -> new Speedrunnery().spheres()).is(0, () -> x.putItem(1, -1)).is(2, x::spheres)
            .is(1, () -> x.putItem(2, -1)).is(0, x::spheres).noElement(() -> x.sphereOf(0)).noElement(() -> x.sphereOf(2))
            .is(3, () -> x.putItem(4, 2)).is(0, x::spheres);
        sphereByManyDoors();
        sphereFromUnreachedRooms();
        eightSpheres();
    }

    /** The way to the item leads through all rooms, and each of its doors was added ahead of the one before. */
    private static void sphereByManyDoors() {
        Speedrunnery x = new Speedrunnery();
        int[] way = {0, 11, 1, 10, 2, 9, 3, 8, 4, 7, 5, 6};
        for (int i = way.length - 2; i >= 0; i--) {
            x.door(way[i], way[i + 1], 1, 0, 0, -1);
        }
        x.putItem(6, 3);
        Sentence.terms("in rooms to which one comes from the room 0 by doors without glitches")
            .is(0, () -> x.sphereOf(3)).is(1, x::spheres);
    }

    /** Doors that lead on from rooms to which one does not come, lower and higher ones. */
    private static void sphereFromUnreachedRooms() {
        Speedrunnery x = new Speedrunnery();
        x.door(11, 6, 1, 0, 0, -1);
        x.door(2, 7, 1, 0, 0, -1);
        x.door(6, 0, 1, 0, 0, -1);
        x.putItem(6, 1);
        x.putItem(7, 2);
        Sentence from = Sentence.terms("in rooms to which one comes from the room 0");
        from.is(0, x::spheres).noElement(() -> x.sphereOf(1)).noElement(() -> x.sphereOf(2));
        x.door(0, 5, 1, 0, 0, -1);
        from.is(0, x::spheres).is(4, () -> x.door(5, 11, 1, 0, 0, -1)).is(0, () -> x.sphereOf(1)).noElement(() -> x.sphereOf(2))
            .is(5, () -> x.door(6, 2, 1, 0, 0, 0)).noElement(() -> x.sphereOf(2))
            .is(6, () -> x.door(6, 2, 1, 0, 2, -1)).is(1, () -> x.sphereOf(2)).is(2, x::spheres);
    }

    /** Each item opens the way to the next one, so that there are as many spheres as items. */
    private static void eightSpheres() {
        Speedrunnery x = chain();
        for (int i = 0; i < 8; i++) {
            x.putItem(i, 7 - i);
        }
        Sentence all = Sentence.of(7, "Returns the number of spheres");
        all.is(8, x::spheres);
        for (int i = 0; i < 8; i++) {
            int item = i;
            Sentence.of(8, "Returns the sphere, from 0").is(7 - item, () -> x.sphereOf(item));
        }
        x.putItem(3, -1);
        all.is(3, x::spheres);
        Sentence.of(8, "if it is in no room, or is not had")
            .each(java.util.NoSuchElementException.class, new int[] {0, 1, 2, 3, 4}, x::sphereOf).is(2, () -> x.sphereOf(5));
    }

    /** The rooms 0 to 7 in a row: each door needs the item 7, then 6 and so on. */
    private static Speedrunnery chain() {
        Speedrunnery x = new Speedrunnery();
        for (int i = 1; i < 8; i++) {
            x.door(i - 1, i, 1, 0, 1 << 8 - i, -1);
        }
        return x;
    }

    /** The items of a shuffle as the document tells it, reckoned with numbers that do not wrap. */
    private static int[] shuffled(int count, int seed) {
        int[] items = new int[count];
        for (int i = 0; i < count; i++) {
            items[i] = 7 - i;
        }
        long whole = 1L << 32;
        long z = Math.floorMod((long) seed, whole);
        for (int k = count - 1; k >= 1; k--) {
            z = (z * 1103515245 + 12345) % whole;
            int j = (int) (z / 65536 % (k + 1));
            int item = items[k];
            items[k] = items[j];
            items[j] = item;
        }
        return items;
    }

    /** Rooms that one can all come to, so that the first seed always does. */
    private static void shuffleOrder() {
        Sentence rising = Sentence.terms("A shuffle takes the rooms with items, by rising numbers, and their items");
        Sentence wraps = Sentence.terms("for k from the number of these less 1 down to 1, z, at first the seed,"
            + " becomes itself times 1103515245 plus 12345, as an int that wraps, and the items of the rooms k and j"
            + " change places, j being the bits of z from the bit 16 on, taken as a number from 0 on, modulo k + 1");
        int[] rooms = {0, 1, 3, 4, 7, 8, 10, 11};
        int[] seeds = {0, 1, -1, 65535, 65536, 12345678, Integer.MAX_VALUE, Integer.MIN_VALUE};
        for (int count = 0; count <= 8; count++) {
            for (int seed : seeds) {
                Speedrunnery x = Houses.row(11);
                for (int i = count - 1; i >= 0; i--) {
                    x.putItem(rooms[i], 7 - i);
                }
                int[] due = shuffled(count, seed);
                wraps.is(seed, () -> x.shuffle(seed));
                for (int i = 0; i < count; i++) {
                    int at = i;
                    rising.is(due[at], () -> x.itemIn(rooms[at]));
                }
                rising.is(-1, () -> x.itemIn(2)).is(-1, () -> x.itemIn(9));
            }
        }
    }

    /** Only one order of the items will do, and a seed that makes it from where they are put is known. */
    private static void shuffleOfAChain() {
        Sentence all = Sentence.of(6, "Returns the seed by which all can be had");
        for (int good : new int[] {5, 50, 54, Integer.MIN_VALUE}) {
            Speedrunnery x = chain();
            int[] order = shuffled(8, good);
            for (int i = 0; i < 8; i++) {
                x.putItem(7 - order[i], 7 - i);
            }
            all.is(good, () -> x.shuffle(good)).is(8, x::spheres);
            for (int i = 0; i < 8; i++) {
                x.putItem(7 - order[i], 7 - i);
            }
            int[] before = new int[8];
            for (int i = 0; i < 8; i++) {
                before[i] = x.itemIn(i);
            }
            Sentence.terms("at most 50 of them in all").is(-1, () -> x.shuffle(good - 50));
            for (int i = 0; i < 8; i++) {
                int room = i;
                Sentence.of(6, "and nothing changes").is(before[room], () -> x.itemIn(room));
            }
            Sentence.terms("at most 50 of them in all").is(good, () -> x.shuffle(good - 49)).is(8, x::spheres);
            for (int i = 0; i < 8; i++) {
                int room = i;
                all.is(7 - room, () -> x.itemIn(room));
            }
        }
    }

    /** Two items that must not change places: the first seed lets them, and the next one does not. */
    private static void shuffleTries() {
        Sentence next = Sentence.terms("If not all items are had so, the items are taken as they were, and the seed"
            + " that is greater by 1 is tried, at most 50 of them in all");
        int first = Houses.GREATEST;
        while (shuffled(2, first)[0] != 6 || shuffled(2, first + 1)[0] == 6) {
            first--;
        }
        int good = first;
        Speedrunnery x = new Speedrunnery();
        x.putItem(0, 7);
        x.putItem(1, 6);
        x.door(0, 1, 1, 0, 128, -1);
        next.is(good + 1, () -> x.shuffle(good)).is(7, () -> x.itemIn(0)).is(6, () -> x.itemIn(1));
        Speedrunnery shut = new Speedrunnery();
        shut.putItem(0, 7);
        shut.putItem(5, 6);
        shut.putItem(11, 0);
        Sentence.of(6, "Returns the seed by which all can be had, or -1 if none of 50 does, and nothing changes")
            .each(-1, new int[] {0, 1, -49, Houses.GREATEST, Houses.LEAST}, shut::shuffle)
            .is(7, () -> shut.itemIn(0)).is(6, () -> shut.itemIn(5)).is(0, () -> shut.itemIn(11))
            .is(-1, () -> shut.itemIn(1)).is(good + 1, () -> x.shuffle(good + 1));
        Sentence.of(6, "if a run was submitted").unsupported(() -> Houses.submitted().shuffle(0));
    }

    private static void newObject() {
        Sentence.terms("A house that keeps records of a game run fast").is(0, () -> new Speedrunnery().runs());
        Sentence made = Sentence.of(1, "Creates a house with a game without doors and items");
        Speedrunnery x = new Speedrunnery();
        made.index(new int[] {0, 1, 23, -1}, x::input).is(0, x::spheres).is(0, x::had).is('.', x::play)
            .noElement(x::desync).is(0L, () -> x.ticks('r')).is(0L, () -> x.ticks('g')).is(0, x::ends).is(0, x::erase)
            .index(() -> x.judge(0)).index(() -> x.stateOf(0)).is(0, x::runs).is(true, x::isSound)
            .is(0, () -> x.door(0, 0, 1, 0, 0, -1)).is(0, x::category).is(1, () -> x.nextDay(1));
        twoObjects();
    }

    private static void twoObjects() {
        Speedrunnery x = Houses.row(3);
        x.putItem(0, 1);
        x.setRate(0, 4);
        x.category();
        x.pause(5);
        Speedrunnery y = new Speedrunnery();
        Sentence.of(1, "Creates a house").is(-1, () -> y.itemIn(0)).is(1, () -> y.setRate(0, 1)).is(0, y::erase)
            .index(() -> y.input(0)).index(() -> y.judge(0)).is(20L, () -> x.ticks('r'));
    }

    private static void doorCalls() {
        Speedrunnery x = new Speedrunnery();
        Sentence.of(2, "if there is no such room, for either")
            .index(NO_ROOMS, r -> x.door(r, 0, 1, 0, 0, -1)).index(NO_ROOMS, r -> x.door(0, r, 1, 0, 0, -1))
            .index(NO_ROOMS, r -> x.door(r, r, 1, 0, 0, -1));
        Sentence number = Sentence.of(2, "if a number is out of range");
        number.argument(NO_WAITS, n -> x.door(0, 0, n, 0, 0, -1)).argument(NO_SUMS, n -> x.door(0, 0, 5, 0, n, -1))
            .argument(Sentence.outside(0, 4), n -> x.door(0, 0, 5, n, 0, -1))
            .argument(Sentence.outside(-1, 7), n -> x.door(0, 0, 5, 0, 0, n));
        Sentence.of(2, "`loading`: how many of them are loading, from 0 on")
            .is(0, () -> x.door(0, 0, 5, 0, 0, -1)).argument(() -> x.door(0, 0, 5, -1, 0, -1));
        Sentence.of(2, "`needs`: its items, 0 to 255")
            .is(1, () -> x.door(0, 0, 5, 0, 0, -1)).is(2, () -> x.door(0, 0, 5, 0, 255, -1)).argument(NO_SUMS,
                n -> x.door(0, 0, 5, 0, n, -1));
        Sentence.of(2, "`glitch`: its glitch, or -1")
            .is(3, () -> x.door(0, 0, 5, 0, 0, -1)).is(4, () -> x.door(0, 0, 5, 0, 0, 7))
            .argument(() -> x.door(0, 0, 5, 0, 0, -2)).argument(() -> x.door(0, 0, 5, 0, 0, 8));
        Sentence.of(2, "Returns its number").is(5, () -> x.door(11, 0, 5, 0, 0, -1)).is(6, () -> x.door(0, 11, 5, 0, 0, -1));
        Sentence.of(2, "if a run was submitted").unsupported(() -> Houses.submitted().door(0, 0, 1, 0, 0, -1));
        Sentence.of(2, "if there are 24 doors").state(() -> Houses.withAllDoors().door(0, 0, 1, 0, 0, -1));
    }

    private static void itemCalls() {
        Speedrunnery x = new Speedrunnery();
        Sentence.of(3, "if there is no such room").index(NO_ROOMS, r -> x.putItem(r, 0)).index(NO_ROOMS, r -> x.putItem(r, -1));
        Sentence.of(3, "if there is no such item").argument(Sentence.outside(-1, 7), i -> x.putItem(0, i));
        Sentence.of(3, "if a run was submitted").unsupported(() -> Houses.submitted().putItem(0, 0))
            .unsupported(() -> Houses.submitted().putItem(0, -1));
        Sentence.of(3, "`item`: the item, or -1 for none")
            .is(-1, () -> x.putItem(0, -1)).is(-1, () -> x.putItem(0, 7)).is(7, () -> x.putItem(0, -1)).is(-1, () -> x.itemIn(0));
        Sentence.of(3, "Returns the item before, or -1")
            .is(-1, () -> x.putItem(2, 0)).is(0, () -> x.putItem(2, 0)).is(0, () -> x.itemIn(2)).is(0, () -> x.putItem(2, 5))
            .is(-1, () -> x.putItem(3, 5)).is(-1, () -> x.putItem(2, -1));
        Sentence.of(4, "if there is no such room").index(NO_ROOMS, r -> x.setRate(r, 1));
        Sentence.of(4, "if it is out of range").argument(Sentence.outside(1, 4), n -> x.setRate(0, n));
        Sentence.of(4, "if a run was submitted").unsupported(() -> Houses.submitted().setRate(0, 1));
        Sentence.of(4, "Returns the rate before")
            .is(1, () -> x.setRate(0, 2)).is(2, () -> x.setRate(0, 3)).is(3, () -> x.setRate(0, 4)).is(4, () -> x.setRate(0, 1));
        Sentence.of(5, "if there is no such room").index(NO_ROOMS, x::itemIn);
        Sentence.of(5, "Returns the item, or -1").is(5, () -> x.itemIn(3)).is(-1, () -> x.itemIn(4));
    }

    private static void sphereCalls() {
        Speedrunnery x = Houses.row(1);
        x.putItem(0, 0);
        x.putItem(1, 7);
        x.putItem(2, 4);
        Sentence.of(8, "if there is no such item").argument(Sentence.outside(0, 7), x::sphereOf)
            .is(0, () -> x.sphereOf(0)).is(0, () -> x.sphereOf(7));
        Sentence.of(8, "if it is in no room, or is not had").noElement(() -> x.sphereOf(3)).noElement(() -> x.sphereOf(4))
            .is(0, () -> x.putItem(0, -1)).noElement(() -> x.sphereOf(0));
    }

    private static void movieCalls() {
        Speedrunnery x = new Speedrunnery();
        Sentence none = Sentence.of(9, "if there is no such door");
        none.index(new int[] {0, -1, Houses.LEAST, Houses.GREATEST}, x::input);
        x.door(0, 0, 5, 0, 0, -1);
        none.index(new int[] {1, -1, 24, Houses.LEAST, Houses.GREATEST}, x::input);
        Sentence.of(9, "Returns the number of inputs").is(1, () -> x.input(0)).is(2, () -> x.input(0));
        Sentence.of(10, "if they are out of range").argument(NO_WAITS, x::pause);
        Sentence.of(10, "`frames`: the frames, 1 to 999").is(3, () -> x.pause(1)).is(4, () -> x.pause(999));
        Sentence.of(10, "Returns the number of inputs").is(5, () -> x.pause(2));
        Sentence.of(11, "Returns how many there were").is(5, x::erase).is(0, x::erase);
        for (int i = 0; i < 39; i++) {
            x.pause(1);
        }
        Sentence.of(9, "Returns the number of inputs").is(40, () -> x.input(0));
        Sentence.of(9, "if there are 40 inputs").state(() -> x.input(0));
        Sentence.of(10, "if there are 40 inputs").state(() -> x.pause(1));
        Sentence.of(11, "Returns how many there were").is(40, x::erase);
        for (int i = 0; i < 39; i++) {
            x.input(0);
        }
        Sentence.of(10, "Returns the number of inputs").is(40, () -> x.pause(1)).state(() -> x.pause(1));
    }

    private static void playCalls() {
        Speedrunnery x = Houses.row(1);
        x.door(1, 0, 6, 0, 4, -1);
        x.putItem(1, 7);
        Sentence play = Sentence.of(12, "Returns '.' it goes to its end, r or i it desyncs");
        Sentence desync = Sentence.of(13, "if it does not");
        Sentence at = Sentence.of(13, "Returns the input, from 0");
        Sentence ends = Sentence.of(14, "Returns the room");
        Sentence had = Sentence.of(15, "Returns the sum of 2 to the power of each");
        Sentence ticks = Sentence.of(16, "Returns the ticks");
        play.is('.', x::play);
        desync.noElement(x::desync);
        ends.is(0, x::ends);
        had.is(0, x::had);
        ticks.is(0L, () -> x.ticks('r')).is(0L, () -> x.ticks('g'));
        x.input(1);
        play.is('r', x::play);
        at.is(0, x::desync);
        Houses.walk(x, 0);
        desync.noElement(x::desync);
        had.is(128, x::had);
        for (int i = 0; i < 38; i++) {
            x.pause(1);
        }
        x.input(1);
        play.is('i', x::play);
        at.is(39, x::desync);
        ends.is(1, x::ends);
        ticks.is(48L, () -> x.ticks('r'));
        x.putItem(0, 2);
        play.is('.', x::play);
        ends.is(0, x::ends);
        had.is(132, x::had);
        ticks.is(54L, () -> x.ticks('r'));
        int[] noClocks = {'R', 'G', '.', 0, 'r' + 1, 'g' - 1, 'r' + 256, 65535};
        Sentence.of(16, "if there is no such clock").argument(noClocks, c -> x.ticks((char) c));
    }
}
