import java.util.NoSuchElementException;

/** A house that keeps records of a game run fast; what each call answers is told by the document. */
public final class Speedrunnery {
    private static final int ROOMS = 12;
    private static final int ITEMS = 8;
    private static final int GLITCHES = 8;
    private static final int PLAYERS = 6;
    private static final int MOST_DOORS = 24;
    private static final int MOST_FRAMES = 999;
    private static final int MOST_RATE = 4;
    private static final int MOST_INPUTS = 40;
    private static final int MOST_CATEGORIES = 5;
    private static final int MOST_SPLITS = 4;
    private static final int MOST_RUNS = 24;
    private static final int MOST_SEEDS = 50;
    private static final int MOST_DAYS_AT_ONCE = 100;
    private static final int LAST_DAY = 5000;
    private static final int MOST_CALLS = 512;
    private static final int TRIED_DOORS = 4;

    /** Every sum of items, and every sum of glitches, is from 0 to this. */
    private static final int FULL_SUM = 255;
    /** A state of a game is a room together with the items had. */
    private static final int STATES = ROOMS * (FULL_SUM + 1);
    /** A shortest route is in no state twice, and its items only grow: that makes 9 sums in 12 rooms. */
    private static final int LONGEST_ROUTE = ROOMS * (ITEMS + 1);

    private static final int NONE = -1;
    /** Longer than any time, and the greatest number there is, written out as LANGUAGE.md lists no name for it. */
    private static final long NEVER = 0x7fffffffffffffffL;

    private static final char REAL = 'r';
    private static final char GAME = 'g';
    private static final char FITS = '.';
    private static final char WRONG_ROOM = 'r';
    private static final char NO_ITEMS = 'i';
    private static final char SUBMITTED = 's';
    private static final char VERIFIED = 'v';
    private static final char REJECTED = 'x';

    private final Game game = new Game();
    private final Movie movie = new Movie();
    /** Played anew by each call that asks, as the game may have changed since. */
    private final Playthrough playthrough = new Playthrough(game.start);
    private final Routes routes = new Routes(game);
    private final Player[] players = new Player[PLAYERS];
    private final Category[] categories = new Category[MOST_CATEGORIES];
    private int categoryCount = 0;
    private final Run[] runList = new Run[MOST_RUNS];
    private int runCount = 0;
    private final Run[] board = new Run[MOST_RUNS];
    private int boardSize = 0;
    private int today = 0;
    /** The days that were ever this day: from one to the next no board changes. */
    private final int[] daysLived = new int[MOST_CALLS + 1];
    private int daysLivedCount = 1;

    public Speedrunnery() {
        for (int i = 0; i < PLAYERS; i++) {
            players[i] = new Player();
        }
    }

    // ---- the game

    public int door(int from, int to, int frames, int loading, int needs, int glitch)
            throws IndexOutOfBoundsException, IllegalArgumentException, UnsupportedOperationException, IllegalStateException {
        if (!isBelow(from, ROOMS) || !isBelow(to, ROOMS)) {
            throw new IndexOutOfBoundsException("no such room");
        }
        if (!isWait(frames) || !isBelow(loading, frames) || !isSum(needs)) {
            throw new IllegalArgumentException("frames, loading or needs out of range");
        }
        if (glitch != NONE && !isBelow(glitch, GLITCHES)) {
            throw new IllegalArgumentException("no such glitch");
        }
        refuseIfSubmitted();
        int number = game.doorCount;
        if (number >= MOST_DOORS) {
            throw new IllegalStateException("no more doors");
        }
        game.doors[number] = new Door(game.rooms[from], game.rooms[to], frames, loading, needs, glitch);
        game.doorCount = number + 1;
        return number;
    }

    public int putItem(int room, int item)
            throws IndexOutOfBoundsException, IllegalArgumentException, UnsupportedOperationException {
        Room here = roomAt(room);
        if (item != NONE && !isBelow(item, ITEMS)) {
            throw new IllegalArgumentException("no such item");
        }
        refuseIfSubmitted();
        int before = here.item;
        game.place(here, item);
        return before;
    }

    public int setRate(int room, int rate)
            throws IndexOutOfBoundsException, IllegalArgumentException, UnsupportedOperationException {
        Room here = roomAt(room);
        if (rate < 1 || rate > MOST_RATE) {
            throw new IllegalArgumentException("rate out of range");
        }
        refuseIfSubmitted();
        int before = here.rate;
        here.rate = rate;
        return before;
    }

    public int itemIn(int room) throws IndexOutOfBoundsException {
        return roomAt(room).item;
    }

    public int shuffle(int seed) throws UnsupportedOperationException {
        refuseIfSubmitted();
        return game.shuffleFrom(seed);
    }

    public int spheres() {
        game.reckonSpheres();
        return game.sphereCount;
    }

    public int sphereOf(int item) throws IllegalArgumentException, NoSuchElementException {
        if (!isBelow(item, ITEMS)) {
            throw new IllegalArgumentException("no such item");
        }
        game.reckonSpheres();
        int sphere = game.sphereWith(item);
        if (sphere == NONE) {
            throw new NoSuchElementException("not had");
        }
        return sphere;
    }

    // ---- the movie

    public int input(int door) throws IndexOutOfBoundsException, IllegalStateException {
        if (!isBelow(door, game.doorCount)) {
            throw new IndexOutOfBoundsException("no such door");
        }
        refuseIfMovieIsFull();
        movie.append(game.doors[door], 0);
        return movie.length;
    }

    public int pause(int frames) throws IllegalArgumentException, IllegalStateException {
        if (!isWait(frames)) {
            throw new IllegalArgumentException("frames out of range");
        }
        refuseIfMovieIsFull();
        movie.append(null, frames);
        return movie.length;
    }

    public int erase() {
        int before = movie.length;
        movie.length = 0;
        return before;
    }

    public char play() {
        return playMovie().fate;
    }

    public int desync() throws NoSuchElementException {
        Playthrough played = playMovie();
        if (played.fate == FITS) {
            throw new NoSuchElementException("no desync");
        }
        return played.desyncAt;
    }

    public int ends() {
        return playMovie().room.number;
    }

    public int had() {
        return playMovie().had;
    }

    public long ticks(char clock) throws IllegalArgumentException {
        refuseUnlessClock(clock);
        return playMovie().total(clock);
    }

    // ---- categories and splits

    public int category() throws IllegalStateException {
        int number = categoryCount;
        if (number >= MOST_CATEGORIES) {
            throw new IllegalStateException("no more categories");
        }
        categories[number] = new Category();
        categoryCount = number + 1;
        return number;
    }

    public int rule(int category, int must, int end, int barred, char clock)
            throws IndexOutOfBoundsException, IllegalArgumentException, UnsupportedOperationException {
        Category changed = categoryAt(category);
        if (!isSum(must) || !isBelow(end, ROOMS) || !isSum(barred)) {
            throw new IllegalArgumentException("items, room or glitches out of range");
        }
        refuseUnlessClock(clock);
        if (changed.mergedInto != null) {
            throw new UnsupportedOperationException("merged");
        }
        Rules newest = changed.newest;
        Rules earlier = newest.day == today ? newest.earlier : newest;
        changed.newest = new Rules(today, must, end, barred, clock, earlier);
        changed.changes++;
        return changed.changes;
    }

    public char judge(int category) throws IndexOutOfBoundsException {
        Rules rules = categoryAt(category).rulesOn(today);
        return rules.verdict(playMovie());
    }

    public int split(int category, int room) throws IndexOutOfBoundsException, IllegalStateException {
        Category changed = categoryAt(category);
        Room added = roomAt(room);
        int count = changed.splitCount;
        if (count >= MOST_SPLITS) {
            throw new IllegalStateException("no more splits");
        }
        changed.splits[count] = added;
        changed.splitCount = count + 1;
        return changed.splitCount;
    }

    public long gold(int category, int segment) throws IndexOutOfBoundsException, NoSuchElementException {
        Category asked = categoryAt(category);
        if (segment < 0 || segment > asked.splitCount) {
            throw new IndexOutOfBoundsException("no such segment");
        }
        fillBoard(asked, today);
        return goldOnBoard(asked, segment);
    }

    public long best(int category) throws IndexOutOfBoundsException, NoSuchElementException {
        Category asked = categoryAt(category);
        fillBoard(asked, today);
        long sum = 0;
        for (int segment = 0; segment <= asked.splitCount; segment++) {
            sum += goldOnBoard(asked, segment);
        }
        return sum;
    }

    // ---- routes

    public long route(int category) throws IndexOutOfBoundsException, NoSuchElementException {
        reckonRoute(categoryAt(category));
        return routes.time;
    }

    public int routeAt(int category, int index)
            throws IndexOutOfBoundsException, IllegalArgumentException, NoSuchElementException {
        Category asked = categoryAt(category);
        if (index < 0) {
            throw new IllegalArgumentException("index less than 0");
        }
        reckonRoute(asked);
        return routes.doorNumber(asked.rulesOn(today), index);
    }

    public boolean isShortest(int category) throws IndexOutOfBoundsException {
        return nothingIsFaster(categoryAt(category));
    }

    // ---- runs

    public int submit(int player, int category)
            throws IndexOutOfBoundsException, UnsupportedOperationException, IllegalStateException {
        Player by = playerAt(player);
        Category chosen = categoryAt(category);
        char verdict = chosen.rulesOn(today).verdict(playMovie());
        if (verdict != FITS || chosen.mergedInto != null || by.isBannedOn(today)) {
            throw new UnsupportedOperationException("does not fit, merged or banned");
        }
        int number = runCount;
        if (number >= MOST_RUNS) {
            throw new IllegalStateException("no more runs");
        }
        Movie kept = movie.copy();
        Playthrough played = new Playthrough(game.start);
        played.follow(kept);
        runList[number] = new Run(number, by, chosen, kept, played);
        runCount = number + 1;
        return number;
    }

    public char verify(int run, int player) throws IndexOutOfBoundsException, UnsupportedOperationException {
        Run checked = runAt(run);
        Player by = playerAt(player);
        if (checked.state != SUBMITTED || checked.player == by || checked.verifier == by) {
            throw new UnsupportedOperationException("can't be verified by this player");
        }
        if (checked.verifier == null) {
            checked.verifier = by;
        } else {
            checked.state = VERIFIED;
            checked.verifiedOn = today;
        }
        return checked.state;
    }

    public boolean reject(int run, int player) throws IndexOutOfBoundsException, UnsupportedOperationException {
        Run checked = runAt(run);
        Player by = playerAt(player);
        if (checked.state != SUBMITTED || checked.player == by) {
            throw new UnsupportedOperationException("can't be rejected by this player");
        }
        checked.state = REJECTED;
        return checked.verifier != null;
    }

    public char stateOf(int run) throws IndexOutOfBoundsException {
        return runAt(run).state;
    }

    public int ban(int player) throws IndexOutOfBoundsException, UnsupportedOperationException {
        Player banned = playerAt(player);
        if (banned.isBannedOn(today)) {
            throw new UnsupportedOperationException("banned");
        }
        banned.bannedFrom = today;
        int count = 0;
        for (int i = 0; i < runCount; i++) {
            if (runList[i].player == banned && runList[i].state == VERIFIED) {
                count++;
            }
        }
        return count;
    }

    public int merge(int category, int into)
            throws IndexOutOfBoundsException, IllegalArgumentException, UnsupportedOperationException {
        Category merged = categoryAt(category);
        Category other = categoryAt(into);
        if (merged == other) {
            throw new IllegalArgumentException("both are the same");
        }
        if (merged.mergedInto != null || other.mergedInto != null) {
            throw new UnsupportedOperationException("merged");
        }
        int count = 0;
        for (int i = 0; i < runCount; i++) {
            if (runList[i].category.homeOn(today) == merged) {
                count++;
            }
        }
        merged.mergedInto = other;
        merged.mergedFrom = today;
        return count;
    }

    public int nextDay(int days) throws IllegalArgumentException {
        if (days < 1 || days > MOST_DAYS_AT_ONCE || today + days > LAST_DAY) {
            throw new IllegalArgumentException("days out of range");
        }
        today += days;
        if (daysLivedCount < daysLived.length) {
            daysLived[daysLivedCount] = today;
            daysLivedCount++;
        }
        return today;
    }

    // ---- boards and records

    public int ranked(int category, int index, boolean withObsolete)
            throws IndexOutOfBoundsException, IllegalArgumentException {
        Category asked = categoryAt(category);
        if (index < 0) {
            throw new IllegalArgumentException("index less than 0");
        }
        fillBoard(asked, today);
        int counted = 0;
        for (int place = 0; place < boardSize; place++) {
            if (withObsolete || !isObsolete(place)) {
                if (counted == index) {
                    return board[place].number;
                }
                counted++;
            }
        }
        return NONE;
    }

    public long timeOf(int run, char clock) throws IndexOutOfBoundsException, IllegalArgumentException {
        Run asked = runAt(run);
        refuseUnlessClock(clock);
        return asked.played.total(clock);
    }

    public int recordOn(int category, int day)
            throws IndexOutOfBoundsException, IllegalArgumentException, NoSuchElementException {
        Category asked = categoryAt(category);
        if (day < 0 || day > today) {
            throw new IllegalArgumentException("no such day");
        }
        fillBoard(asked, day);
        if (boardSize == 0) {
            throw new NoSuchElementException("empty board");
        }
        return board[0].number;
    }

    public int stood(int run, int category) throws IndexOutOfBoundsException {
        Run asked = runAt(run);
        Category where = categoryAt(category);
        int days = 0;
        for (int i = 0; i < daysLivedCount; i++) {
            fillBoard(where, daysLived[i]);
            if (boardSize > 0 && board[0] == asked) {
                int until = i + 1 < daysLivedCount ? daysLived[i + 1] : today + 1;
                days += until - daysLived[i];
            }
        }
        return days;
    }

    public int runs() {
        return runCount;
    }

    public float verifiedShare() throws ArithmeticException {
        if (runCount == 0) {
            throw new ArithmeticException("no runs");
        }
        int verified = 0;
        for (int i = 0; i < runCount; i++) {
            if (runList[i].state == VERIFIED) {
                verified++;
            }
        }
        return (float) verified / (float) runCount;
    }

    public double meanTime(int category) throws IndexOutOfBoundsException, ArithmeticException {
        Category asked = categoryAt(category);
        fillBoard(asked, today);
        if (boardSize == 0) {
            throw new ArithmeticException("empty board");
        }
        char clock = asked.rulesOn(today).clock;
        long sum = 0;
        for (int place = 0; place < boardSize; place++) {
            sum += board[place].played.total(clock);
        }
        return (double) sum / (double) boardSize;
    }

    public boolean isSound() {
        for (int i = 0; i < categoryCount; i++) {
            if (!nothingIsFaster(categories[i]) || !boardFitsPlayedAgain(categories[i])) {
                return false;
            }
        }
        return true;
    }

    // ---- what several calls ask

    private static boolean isBelow(int number, int count) {
        return number >= 0 && number < count;
    }

    private static boolean isSum(int sum) {
        return sum >= 0 && sum <= FULL_SUM;
    }

    private static boolean isWait(int frames) {
        return frames >= 1 && frames <= MOST_FRAMES;
    }

    private static void refuseUnlessClock(char clock) {
        if (clock != REAL && clock != GAME) {
            throw new IllegalArgumentException("no such clock");
        }
    }

    private void refuseIfSubmitted() {
        if (runCount > 0) {
            throw new UnsupportedOperationException("a run was submitted");
        }
    }

    private void refuseIfMovieIsFull() {
        if (movie.length >= MOST_INPUTS) {
            throw new IllegalStateException("no more inputs");
        }
    }

    private Room roomAt(int number) {
        if (!isBelow(number, ROOMS)) {
            throw new IndexOutOfBoundsException("no such room");
        }
        return game.rooms[number];
    }

    private Category categoryAt(int number) {
        if (!isBelow(number, categoryCount)) {
            throw new IndexOutOfBoundsException("no such category");
        }
        return categories[number];
    }

    private Player playerAt(int number) {
        if (!isBelow(number, PLAYERS)) {
            throw new IndexOutOfBoundsException("no such player");
        }
        return players[number];
    }

    private Run runAt(int number) {
        if (!isBelow(number, runCount)) {
            throw new IndexOutOfBoundsException("no such run");
        }
        return runList[number];
    }

    private Playthrough playMovie() {
        playthrough.follow(movie);
        return playthrough;
    }

    private void reckonRoute(Category category) {
        routes.reckon(category.rulesOn(today));
        if (routes.time == NEVER) {
            throw new NoSuchElementException("no route");
        }
    }

    private boolean nothingIsFaster(Category category) {
        Rules rules = category.rulesOn(today);
        routes.reckon(rules);
        return routes.leastTried(rules) >= routes.time;
    }

    /** Puts the runs in order as they come, so that those alike stay in the order of their numbers. */
    private void fillBoard(Category category, int day) {
        Rules rules = category.rulesOn(day);
        boardSize = 0;
        for (int i = 0; i < runCount; i++) {
            Run run = runList[i];
            if (run.isOnBoard(category, rules, day) && boardSize < MOST_RUNS) {
                int place = boardSize;
                while (place > 0 && run.isAheadOf(board[place - 1], rules.clock)) {
                    board[place] = board[place - 1];
                    place--;
                }
                board[place] = run;
                boardSize++;
            }
        }
    }

    private boolean isObsolete(int place) {
        for (int ahead = 0; ahead < place; ahead++) {
            if (board[ahead].player == board[place].player) {
                return true;
            }
        }
        return false;
    }

    private long goldOnBoard(Category category, int segment) {
        char clock = category.rulesOn(today).clock;
        long least = NEVER;
        for (int place = 0; place < boardSize; place++) {
            Playthrough played = board[place].played;
            if (played.hasSplits(category, clock)) {
                least = Math.min(least, played.segmentTime(category, segment, clock));
            }
        }
        if (least == NEVER) {
            throw new NoSuchElementException("no run has splits");
        }
        return least;
    }

    private boolean boardFitsPlayedAgain(Category category) {
        Rules rules = category.rulesOn(today);
        fillBoard(category, today);
        for (int place = 0; place < boardSize; place++) {
            playthrough.follow(board[place].movie);
            if (rules.verdict(playthrough) != FITS) {
                return false;
            }
        }
        return true;
    }

    private static final class Room {
        final int number;
        int rate = 1;
        int item = NONE;

        Room(int number) {
            this.number = number;
        }

        int itemSum() {
            return item == NONE ? 0 : 1 << item;
        }
    }

    private static final class Door {
        final Room from;
        final Room to;
        final int frames;
        final int loading;
        final int needs;
        final int glitch;

        Door(Room from, Room to, int frames, int loading, int needs, int glitch) {
            this.from = from;
            this.to = to;
            this.frames = frames;
            this.loading = loading;
            this.needs = needs;
            this.glitch = glitch;
        }

        boolean isOpenWith(int items) {
            return (needs & ~items) == 0;
        }

        int glitchSum() {
            return glitch == NONE ? 0 : 1 << glitch;
        }

        long cost(char clock) {
            int counted = clock == GAME ? frames - loading : frames;
            return (long) counted * from.rate;
        }
    }

    /** The rooms and doors, and what can be told of the items without playing a movie. */
    private static final class Game {
        final Room[] rooms = new Room[ROOMS];
        final Room start;
        final Door[] doors = new Door[MOST_DOORS];
        int doorCount = 0;
        /** The items of each sphere, as a sum. */
        final int[] sphereItems = new int[ITEMS];
        int sphereCount = 0;
        /** What a shuffle takes: the rooms with items, and their items as they were. */
        final Room[] shuffledRooms = new Room[ITEMS];
        final int[] shuffledItems = new int[ITEMS];
        int shuffledCount = 0;

        Game() {
            for (int i = 0; i < ROOMS; i++) {
                rooms[i] = new Room(i);
            }
            start = rooms[0];
        }

        void place(Room room, int item) {
            for (int i = 0; i < ROOMS; i++) {
                if (rooms[i].item == item) {
                    rooms[i].item = NONE;
                }
            }
            room.item = item;
        }

        int placedItems() {
            int sum = 0;
            for (int i = 0; i < ROOMS; i++) {
                sum |= rooms[i].itemSum();
            }
            return sum;
        }

        void reckonSpheres() {
            sphereCount = 0;
            int had = 0;
            for (int sphere = 0; sphere < ITEMS; sphere++) {
                int fresh = itemsReachedWith(had) & ~had;
                if (fresh == 0) {
                    return;
                }
                sphereItems[sphere] = fresh;
                sphereCount = sphere + 1;
                had |= fresh;
            }
        }

        int sphereWith(int item) {
            for (int sphere = 0; sphere < sphereCount; sphere++) {
                if ((sphereItems[sphere] >> item & 1) == 1) {
                    return sphere;
                }
            }
            return NONE;
        }

        private int itemsReachedWith(int had) {
            int reached = 1;
            for (int round = 0; round < ROOMS; round++) {
                int before = reached;
                for (int i = 0; i < doorCount; i++) {
                    Door door = doors[i];
                    if ((reached >> door.from.number & 1) == 1 && door.glitch == NONE && door.isOpenWith(had)) {
                        reached |= 1 << door.to.number;
                    }
                }
                if (reached == before) {
                    break;
                }
            }
            int items = 0;
            for (int i = 0; i < ROOMS; i++) {
                if ((reached >> i & 1) == 1) {
                    items |= rooms[i].itemSum();
                }
            }
            return items;
        }

        private boolean allCanBeHad() {
            reckonSpheres();
            int had = 0;
            for (int sphere = 0; sphere < sphereCount; sphere++) {
                had |= sphereItems[sphere];
            }
            return had == placedItems();
        }

        int shuffleFrom(int seed) {
            takeItems();
            for (int tries = 0; tries < MOST_SEEDS; tries++) {
                putItemsBack();
                mixItems(seed + tries);
                if (allCanBeHad()) {
                    return seed + tries;
                }
            }
            putItemsBack();
            return NONE;
        }

        private void takeItems() {
            shuffledCount = 0;
            for (int i = 0; i < ROOMS; i++) {
                if (rooms[i].item != NONE && shuffledCount < ITEMS) {
                    shuffledRooms[shuffledCount] = rooms[i];
                    shuffledItems[shuffledCount] = rooms[i].item;
                    shuffledCount++;
                }
            }
        }

        private void putItemsBack() {
            for (int i = 0; i < shuffledCount; i++) {
                shuffledRooms[i].item = shuffledItems[i];
            }
        }

        private void mixItems(int seed) {
            int z = seed;
            for (int k = shuffledCount - 1; k >= 1; k--) {
                z = z * 1103515245 + 12345;
                int j = (z >>> 16) % (k + 1);
                int item = shuffledRooms[k].item;
                shuffledRooms[k].item = shuffledRooms[j].item;
                shuffledRooms[j].item = item;
            }
        }
    }

    private static final class Movie {
        /** The door of each input, null where it is a wait. */
        final Door[] doors = new Door[MOST_INPUTS];
        final int[] waits = new int[MOST_INPUTS];
        int length = 0;

        void append(Door door, int wait) {
            if (length < MOST_INPUTS) {
                doors[length] = door;
                waits[length] = wait;
                length++;
            }
        }

        Movie copy() {
            Movie same = new Movie();
            for (int i = 0; i < length; i++) {
                same.append(doors[i], waits[i]);
            }
            return same;
        }
    }

    /** What comes of a movie as it is played. */
    private static final class Playthrough {
        final Room start;
        Room room;
        int had = 0;
        int glitches = 0;
        long real = 0;
        long inGame = 0;
        char fate = FITS;
        int desyncAt = NONE;
        /** The times at which it is first in each room, or NONE. */
        final long[] firstReal = new long[ROOMS];
        final long[] firstInGame = new long[ROOMS];

        Playthrough(Room start) {
            this.start = start;
            room = start;
        }

        void follow(Movie movie) {
            begin();
            for (int i = 0; i < movie.length; i++) {
                Door door = movie.doors[i];
                if (door == null) {
                    passTime(movie.waits[i]);
                } else if (door.from != room || !door.isOpenWith(had)) {
                    fate = door.from != room ? WRONG_ROOM : NO_ITEMS;
                    desyncAt = i;
                    return;
                } else {
                    goThrough(door);
                }
            }
        }

        private void begin() {
            had = 0;
            glitches = 0;
            real = 0;
            inGame = 0;
            fate = FITS;
            desyncAt = NONE;
            for (int i = 0; i < ROOMS; i++) {
                firstReal[i] = NONE;
                firstInGame[i] = NONE;
            }
            comeTo(start);
        }

        private void passTime(int frames) {
            long wait = (long) frames * room.rate;
            real += wait;
            inGame += wait;
        }

        private void goThrough(Door door) {
            real += door.cost(REAL);
            inGame += door.cost(GAME);
            glitches |= door.glitchSum();
            comeTo(door.to);
        }

        private void comeTo(Room next) {
            room = next;
            had |= next.itemSum();
            if (firstReal[next.number] == NONE) {
                firstReal[next.number] = real;
                firstInGame[next.number] = inGame;
            }
        }

        long total(char clock) {
            return clock == GAME ? inGame : real;
        }

        private long firstIn(Room asked, char clock) {
            return clock == GAME ? firstInGame[asked.number] : firstReal[asked.number];
        }

        boolean hasSplits(Category category, char clock) {
            long before = 0;
            for (int i = 0; i < category.splitCount; i++) {
                long time = firstIn(category.splits[i], clock);
                if (time < before) {
                    return false;
                }
                before = time;
            }
            return true;
        }

        long segmentTime(Category category, int segment, char clock) {
            boolean isFirst = segment <= 0;
            boolean isLast = segment >= category.splitCount;
            long from = isFirst ? 0 : firstIn(category.splits[segment - 1], clock);
            long to = isLast ? total(clock) : firstIn(category.splits[segment], clock);
            return to - from;
        }
    }

    /** The rules of a category from a day on, and behind them those that held earlier. */
    private static final class Rules {
        final int day;
        final int must;
        final int end;
        final int barred;
        final char clock;
        final Rules earlier;

        Rules(int day, int must, int end, int barred, char clock, Rules earlier) {
            this.day = day;
            this.must = must;
            this.end = end;
            this.barred = barred;
            this.clock = clock;
            this.earlier = earlier;
        }

        char verdict(Playthrough played) {
            if (played.fate != FITS) {
                return 'd';
            }
            if (played.room.number != end) {
                return 'e';
            }
            if ((must & ~played.had) != 0) {
                return 'm';
            }
            return (barred & played.glitches) != 0 ? 'g' : FITS;
        }

        boolean areMetIn(int room, int items) {
            return room == end && (must & ~items) == 0;
        }

        boolean allow(Door door, int items) {
            return door.isOpenWith(items) && (barred & door.glitchSum()) == 0;
        }
    }

    private static final class Category {
        /** The first rules stand from day 0 on: no run can be of it on a day before it was made. */
        Rules newest = new Rules(0, 0, 0, 0, REAL, null);
        int changes = 0;
        final Room[] splits = new Room[MOST_SPLITS];
        int splitCount = 0;
        Category mergedInto = null;
        int mergedFrom = 0;

        Rules rulesOn(int day) {
            Rules found = newest;
            while (found.day > day && found.earlier != null) {
                found = found.earlier;
            }
            return found;
        }

        /** The category of which its runs are on a day. */
        Category homeOn(int day) {
            Category home = this;
            for (int i = 0; i < MOST_CATEGORIES; i++) {
                if (home.mergedInto == null || home.mergedFrom > day) {
                    break;
                }
                home = home.mergedInto;
            }
            return home;
        }
    }

    private static final class Player {
        int bannedFrom = LAST_DAY + 1;

        boolean isBannedOn(int day) {
            return bannedFrom <= day;
        }
    }

    private static final class Run {
        final int number;
        final Player player;
        final Category category;
        final Movie movie;
        /** Stays true, as the game stays as it is once there is a run. */
        final Playthrough played;
        char state = SUBMITTED;
        /** The first who verified it. */
        Player verifier = null;
        int verifiedOn = NONE;

        Run(int number, Player player, Category category, Movie movie, Playthrough played) {
            this.number = number;
            this.player = player;
            this.category = category;
            this.movie = movie;
            this.played = played;
        }

        boolean isOnBoard(Category asked, Rules rules, int day) {
            return state == VERIFIED && verifiedOn <= day
                && category.homeOn(day) == asked
                && !player.isBannedOn(day)
                && rules.verdict(played) == FITS;
        }

        boolean isAheadOf(Run other, char clock) {
            long mine = played.total(clock);
            long others = other.played.total(clock);
            if (mine != others) {
                return mine < others;
            }
            if (verifiedOn != other.verifiedOn) {
                return verifiedOn < other.verifiedOn;
            }
            return number < other.number;
        }
    }

    /** Finds shortest routes from their ends, and, apart from that, tries what few doors can do. */
    private static final class Routes {
        final Game game;
        /** The least time from each state to one that meets the rules, or NEVER. */
        final long[] timeLeft = new long[STATES];
        long time = NEVER;
        final Layer evenDoors = new Layer();
        final Layer oddDoors = new Layer();

        Routes(Game game) {
            this.game = game;
        }

        private static int stateIn(Room room, int items) {
            return (items & FULL_SUM) * ROOMS + room.number;
        }

        /** Takes the larger sums of items first, as no door leads from a sum to a smaller one. */
        void reckon(Rules rules) {
            Room start = game.start;
            int placed = game.placedItems();
            for (int items = placed; items >= start.itemSum(); items--) {
                if ((items & ~placed) == 0) {
                    reckonWith(items, rules);
                }
            }
            time = timeLeft[stateIn(start, start.itemSum())];
        }

        private void reckonWith(int items, Rules rules) {
            for (int i = 0; i < ROOMS; i++) {
                Room room = game.rooms[i];
                timeLeft[stateIn(room, items)] = rules.areMetIn(room.number, items) ? 0 : NEVER;
            }
            boolean changed = true;
            for (int round = 0; round < ROOMS && changed; round++) {
                changed = false;
                for (int i = 0; i < game.doorCount; i++) {
                    Door door = game.doors[i];
                    int state = stateIn(door.from, items);
                    long through = timeThrough(door, items, rules);
                    if (through < timeLeft[state]) {
                        timeLeft[state] = through;
                        changed = true;
                    }
                }
            }
        }

        private long timeThrough(Door door, int items, Rules rules) {
            if (!rules.allow(door, items)) {
                return NEVER;
            }
            long behind = timeLeft[stateIn(door.to, items | door.to.itemSum())];
            return behind == NEVER ? NEVER : behind + door.cost(rules.clock);
        }

        int doorNumber(Rules rules, int index) {
            Room room = game.start;
            int items = room.itemSum();
            for (int step = 0; step < LONGEST_ROUTE; step++) {
                int number = firstDoorOn(room, items, rules);
                if (number == NONE || step == index) {
                    return number;
                }
                room = game.doors[number].to;
                items |= room.itemSum();
            }
            return NONE;
        }

        /** The lowest door that loses no time; none where the rules are met, as every door takes time. */
        private int firstDoorOn(Room room, int items, Rules rules) {
            long left = timeLeft[stateIn(room, items)];
            for (int i = 0; i < game.doorCount; i++) {
                Door door = game.doors[i];
                if (door.from == room && left != NEVER && timeThrough(door, items, rules) == left) {
                    return i;
                }
            }
            return NONE;
        }

        /**
         * The least time of all movies of few doors that fit, or NEVER. Movies of as many doors that
         * come to the same state can go on alike, so only the fastest of them goes on.
         */
        long leastTried(Rules rules) {
            Room start = game.start;
            Layer now = evenDoors;
            Layer next = oddDoors;
            now.clear();
            now.offer(stateIn(start, start.itemSum()), 0);
            long least = leastMet(now, rules);
            for (int doors = 1; doors <= TRIED_DOORS; doors++) {
                next.clear();
                goOn(now, next, rules);
                least = Math.min(least, leastMet(next, rules));
                Layer used = now;
                now = next;
                next = used;
            }
            return least;
        }

        private void goOn(Layer now, Layer next, Rules rules) {
            for (int k = 0; k < now.count; k++) {
                int state = now.states[k];
                int items = state / ROOMS;
                for (int i = 0; i < game.doorCount; i++) {
                    Door door = game.doors[i];
                    if (door.from.number == state % ROOMS && rules.allow(door, items)) {
                        int behind = stateIn(door.to, items | door.to.itemSum());
                        next.offer(behind, now.times[state] + door.cost(rules.clock));
                    }
                }
            }
        }

        private static long leastMet(Layer layer, Rules rules) {
            long least = NEVER;
            for (int k = 0; k < layer.count; k++) {
                int state = layer.states[k];
                if (rules.areMetIn(state % ROOMS, state / ROOMS)) {
                    least = Math.min(least, layer.times[state]);
                }
            }
            return least;
        }
    }

    /** The states to which movies of one number of doors come, each with the least time. */
    private static final class Layer {
        final long[] times = new long[STATES];
        final int[] states = new int[STATES];
        int count = 0;

        Layer() {
            for (int i = 0; i < STATES; i++) {
                times[i] = NEVER;
            }
        }

        void clear() {
            for (int k = 0; k < count; k++) {
                times[states[k]] = NEVER;
            }
            count = 0;
        }

        void offer(int state, long time) {
            if (times[state] == NEVER && count < STATES) {
                states[count] = state;
                count++;
            }
            times[state] = Math.min(times[state], time);
        }
    }
}
