import java.util.ArrayList;
import java.util.Arrays;
import java.util.Collections;
import java.util.Comparator;
import java.util.HashMap;
import java.util.HashSet;
import java.util.List;
import java.util.Map;
import java.util.NoSuchElementException;
import java.util.PriorityQueue;
import java.util.Set;
import java.util.TreeMap;

/**
 * The document once more, as slow and plain as can be: it keeps what happened on which day, and
 * reckons each answer from that alone. The random runs compare the class with it.
 */
final class PlainHouse {
    record Way(int from, int to, int frames, int loading, int needs, int glitch) { }

    /** One input: a door, or -1 and a wait. */
    record Input(int door, int pause) { }

    record Law(int category, int day, int must, int end, int barred, char clock) { }

    record Merger(int category, int into, int day) { }

    record Path(long time, int room, int items, List<Integer> doors) { }

    /** What comes of a movie: the rooms with their times, one by one. */
    static final class Played {
        char fate = '.';
        int at = -1;
        int items = 0;
        Set<Integer> glitches = new HashSet<>();
        List<Integer> rooms = new ArrayList<>();
        List<Long> real = new ArrayList<>();
        List<Long> game = new ArrayList<>();
        long realEnd = 0;
        long gameEnd = 0;

        int room() {
            return rooms.get(rooms.size() - 1);
        }

        long total(char clock) {
            return clock == 'r' ? realEnd : gameEnd;
        }

        long first(int room, char clock) {
            int i = rooms.indexOf(room);
            return i < 0 ? -1 : clock == 'r' ? real.get(i) : game.get(i);
        }
    }

    static final class Entry {
        int number;
        int player;
        int category;
        List<Input> movie;
        List<Integer> verifiers = new ArrayList<>();
        int day = -1;
        boolean rejected = false;

        char state() {
            return rejected ? 'x' : verifiers.size() >= 2 ? 'v' : 's';
        }
    }

    private final List<Way> ways = new ArrayList<>();
    private TreeMap<Integer, Integer> items = new TreeMap<>();
    private final int[] rates = new int[12];
    private List<Input> movie = new ArrayList<>();
    private int categories = 0;
    private final List<Law> laws = new ArrayList<>();
    private final List<List<Integer>> splits = new ArrayList<>();
    private final List<Merger> mergers = new ArrayList<>();
    private final Map<Integer, Integer> bans = new HashMap<>();
    private final List<Entry> entries = new ArrayList<>();
    private int today = 0;

    PlainHouse() {
        Arrays.fill(rates, 1);
    }

    private static void index(boolean good) {
        if (!good) {
            throw new IndexOutOfBoundsException();
        }
    }

    private static void argument(boolean good) {
        if (!good) {
            throw new IllegalArgumentException();
        }
    }

    private static void supported(boolean good) {
        if (!good) {
            throw new UnsupportedOperationException();
        }
    }

    private static void state(boolean good) {
        if (!good) {
            throw new IllegalStateException();
        }
    }

    private static void element(boolean good) {
        if (!good) {
            throw new NoSuchElementException();
        }
    }

    private static boolean within(int x, int low, int high) {
        return low <= x && x <= high;
    }

    private static boolean clock(char c) {
        return c == 'r' || c == 'g';
    }

    private void room(int r) {
        index(within(r, 0, 11));
    }

    private void known(int c) {
        index(within(c, 0, categories - 1));
    }

    public int door(int from, int to, int frames, int loading, int needs, int glitch) {
        room(from);
        room(to);
        argument(within(frames, 1, 999));
        argument(within(loading, 0, frames - 1));
        argument(within(needs, 0, 255));
        argument(within(glitch, -1, 7));
        supported(entries.isEmpty());
        state(ways.size() < 24);
        ways.add(new Way(from, to, frames, loading, needs, glitch));
        return ways.size() - 1;
    }

    public int putItem(int room, int item) {
        room(room);
        argument(within(item, -1, 7));
        supported(entries.isEmpty());
        int before = itemIn(room);
        items.remove(room);
        items.values().removeIf(i -> i == item);
        if (item >= 0) {
            items.put(room, item);
        }
        return before;
    }

    public int setRate(int room, int rate) {
        room(room);
        argument(within(rate, 1, 4));
        supported(entries.isEmpty());
        int before = rates[room];
        rates[room] = rate;
        return before;
    }

    public int itemIn(int room) {
        room(room);
        return items.getOrDefault(room, -1);
    }

    public int shuffle(int seed) {
        supported(entries.isEmpty());
        TreeMap<Integer, Integer> before = items;
        List<Integer> rooms = new ArrayList<>(before.keySet());
        for (int n = 0; n < 50; n++) {
            List<Integer> row = new ArrayList<>(before.values());
            int z = seed + n;
            for (int k = row.size() - 1; k >= 1; k--) {
                z = z * 1103515245 + 12345;
                long bits = (z & 0xFFFFFFFFL) / 65536;
                Collections.swap(row, k, (int) (bits % (k + 1)));
            }
            items = new TreeMap<>();
            for (int i = 0; i < row.size(); i++) {
                items.put(rooms.get(i), row.get(i));
            }
            if (sphereList().stream().mapToInt(Set::size).sum() == items.size()) {
                return seed + n;
            }
        }
        items = before;
        return -1;
    }

    private List<Set<Integer>> sphereList() {
        List<Set<Integer>> all = new ArrayList<>();
        Set<Integer> had = new HashSet<>();
        while (true) {
            Set<Integer> fresh = new HashSet<>();
            for (int r : reachable(had)) {
                if (items.containsKey(r) && !had.contains(items.get(r))) {
                    fresh.add(items.get(r));
                }
            }
            if (fresh.isEmpty()) {
                return all;
            }
            all.add(fresh);
            had.addAll(fresh);
        }
    }

    private Set<Integer> reachable(Set<Integer> had) {
        int sum = had.stream().mapToInt(i -> 1 << i).sum();
        Set<Integer> seen = new HashSet<>(Set.of(0));
        List<Integer> open = new ArrayList<>(List.of(0));
        while (!open.isEmpty()) {
            int r = open.remove(0);
            for (Way w : ways) {
                if (w.from == r && w.glitch == -1 && (w.needs & sum) == w.needs && seen.add(w.to)) {
                    open.add(w.to);
                }
            }
        }
        return seen;
    }

    public int spheres() {
        return sphereList().size();
    }

    public int sphereOf(int item) {
        argument(within(item, 0, 7));
        List<Set<Integer>> all = sphereList();
        for (int i = 0; i < all.size(); i++) {
            if (all.get(i).contains(item)) {
                return i;
            }
        }
        throw new NoSuchElementException();
    }

    public int input(int door) {
        index(within(door, 0, ways.size() - 1));
        state(movie.size() < 40);
        movie.add(new Input(door, 0));
        return movie.size();
    }

    public int pause(int frames) {
        argument(within(frames, 1, 999));
        state(movie.size() < 40);
        movie.add(new Input(-1, frames));
        return movie.size();
    }

    public int erase() {
        int before = movie.size();
        movie = new ArrayList<>();
        return before;
    }

    private Played watch(List<Input> shown) {
        Played p = new Played();
        arrive(p, 0);
        for (int i = 0; i < shown.size(); i++) {
            Input in = shown.get(i);
            if (in.door < 0) {
                p.realEnd += (long) in.pause * rates[p.room()];
                p.gameEnd += (long) in.pause * rates[p.room()];
                continue;
            }
            Way w = ways.get(in.door);
            if (w.from != p.room() || (w.needs & p.items) != w.needs) {
                p.fate = w.from != p.room() ? 'r' : 'i';
                p.at = i;
                break;
            }
            p.realEnd += (long) w.frames * rates[w.from];
            p.gameEnd += (long) (w.frames - w.loading) * rates[w.from];
            if (w.glitch >= 0) {
                p.glitches.add(w.glitch);
            }
            arrive(p, w.to);
        }
        return p;
    }

    private void arrive(Played p, int room) {
        p.rooms.add(room);
        p.real.add(p.realEnd);
        p.game.add(p.gameEnd);
        p.items |= bit(room);
    }

    private int bit(int room) {
        return items.containsKey(room) ? 1 << items.get(room) : 0;
    }

    public char play() {
        return watch(movie).fate;
    }

    public int desync() {
        Played p = watch(movie);
        element(p.at >= 0);
        return p.at;
    }

    public int ends() {
        return watch(movie).room();
    }

    public int had() {
        return watch(movie).items;
    }

    public long ticks(char clock) {
        argument(clock(clock));
        return watch(movie).total(clock);
    }

    public int category() {
        state(categories < 5);
        splits.add(new ArrayList<>());
        return categories++;
    }

    private boolean isMerged(int category) {
        return mergers.stream().anyMatch(m -> m.category == category);
    }

    public int rule(int category, int must, int end, int barred, char clock) {
        known(category);
        argument(within(must, 0, 255) && within(end, 0, 11) && within(barred, 0, 255) && clock(clock));
        supported(!isMerged(category));
        laws.add(new Law(category, today, must, end, barred, clock));
        return (int) laws.stream().filter(l -> l.category == category).count();
    }

    private Law law(int category, int day) {
        Law held = new Law(category, 0, 0, 0, 0, 'r');
        for (Law l : laws) {
            if (l.category == category && l.day <= day) {
                held = l;
            }
        }
        return held;
    }

    private char verdict(List<Input> shown, Law law) {
        Played p = watch(shown);
        if (p.fate != '.') {
            return 'd';
        }
        if (p.room() != law.end) {
            return 'e';
        }
        if ((law.must & p.items) != law.must) {
            return 'm';
        }
        return p.glitches.stream().anyMatch(g -> (law.barred >> g & 1) == 1) ? 'g' : '.';
    }

    public char judge(int category) {
        known(category);
        return verdict(movie, law(category, today));
    }

    public int split(int category, int room) {
        known(category);
        room(room);
        state(splits.get(category).size() < 4);
        splits.get(category).add(room);
        return splits.get(category).size();
    }

    /** The segments of a run, or null if it has no splits. */
    private List<Long> segments(Entry e, int category) {
        char clock = law(category, today).clock;
        Played p = watch(e.movie);
        List<Long> parts = new ArrayList<>();
        long last = 0;
        for (int room : splits.get(category)) {
            long at = p.first(room, clock);
            if (at < 0 || at < last) {
                return null;
            }
            parts.add(at - last);
            last = at;
        }
        parts.add(p.total(clock) - last);
        return parts;
    }

    private List<Long> golds(int category) {
        List<Long> least = null;
        for (Entry e : board(category, today)) {
            List<Long> parts = segments(e, category);
            if (parts != null) {
                if (least == null) {
                    least = new ArrayList<>(parts);
                }
                for (int i = 0; i < parts.size(); i++) {
                    least.set(i, Math.min(least.get(i), parts.get(i)));
                }
            }
        }
        element(least != null);
        return least;
    }

    public long gold(int category, int segment) {
        known(category);
        index(within(segment, 0, splits.get(category).size()));
        return golds(category).get(segment);
    }

    public long best(int category) {
        known(category);
        return golds(category).stream().mapToLong(t -> t).sum();
    }

    private static int compare(Path a, Path b) {
        if (a.time != b.time) {
            return Long.compare(a.time, b.time);
        }
        for (int i = 0; i < Math.min(a.doors.size(), b.doors.size()); i++) {
            int c = Integer.compare(a.doors.get(i), b.doors.get(i));
            if (c != 0) {
                return c;
            }
        }
        return Integer.compare(a.doors.size(), b.doors.size());
    }

    private Path shortest(Law law) {
        PriorityQueue<Path> open = new PriorityQueue<>(PlainHouse::compare);
        Set<Integer> seen = new HashSet<>();
        open.add(new Path(0, 0, bit(0), List.of()));
        while (!open.isEmpty()) {
            Path p = open.remove();
            if (p.room == law.end && (law.must & p.items) == law.must) {
                return p;
            }
            if (seen.add(p.items * 12 + p.room)) {
                open.addAll(onward(p, law));
            }
        }
        return null;
    }

    private List<Path> onward(Path p, Law law) {
        List<Path> all = new ArrayList<>();
        for (int d = 0; d < ways.size(); d++) {
            Way w = ways.get(d);
            boolean barred = w.glitch >= 0 && (law.barred >> w.glitch & 1) == 1;
            if (w.from == p.room && (w.needs & p.items) == w.needs && !barred) {
                int counted = law.clock == 'r' ? w.frames : w.frames - w.loading;
                List<Integer> doors = new ArrayList<>(p.doors);
                doors.add(d);
                all.add(new Path(p.time + (long) counted * rates[w.from], w.to, p.items | bit(w.to), doors));
            }
        }
        return all;
    }

    public long route(int category) {
        known(category);
        Path p = shortest(law(category, today));
        element(p != null);
        return p.time;
    }

    public int routeAt(int category, int index) {
        known(category);
        argument(index >= 0);
        Path p = shortest(law(category, today));
        element(p != null);
        return index < p.doors.size() ? p.doors.get(index) : -1;
    }

    public boolean isShortest(int category) {
        known(category);
        Path p = shortest(law(category, today));
        return leastOfFewDoors(category) >= (p == null ? Long.MAX_VALUE : p.time);
    }

    /** The least time of all movies of at most 4 doors that fit, or the greatest number there is. */
    long leastOfFewDoors(int category) {
        return leastOf(new Path(0, 0, bit(0), List.of()), law(category, today));
    }

    private long leastOf(Path p, Law law) {
        long least = p.room == law.end && (law.must & p.items) == law.must ? p.time : Long.MAX_VALUE;
        if (p.doors.size() < 4) {
            for (Path next : onward(p, law)) {
                least = Math.min(least, leastOf(next, law));
            }
        }
        return least;
    }

    public int submit(int player, int category) {
        index(within(player, 0, 5));
        known(category);
        supported(judge(category) == '.' && !isMerged(category) && !bans.containsKey(player));
        state(entries.size() < 24);
        Entry e = new Entry();
        e.number = entries.size();
        e.player = player;
        e.category = category;
        e.movie = List.copyOf(movie);
        entries.add(e);
        return e.number;
    }

    private Entry entry(int run) {
        index(within(run, 0, entries.size() - 1));
        return entries.get(run);
    }

    public char verify(int run, int player) {
        Entry e = entry(run);
        index(within(player, 0, 5));
        supported(e.state() == 's' && e.player != player && !e.verifiers.contains(player));
        e.verifiers.add(player);
        if (e.verifiers.size() == 2) {
            e.day = today;
        }
        return e.state();
    }

    public boolean reject(int run, int player) {
        Entry e = entry(run);
        index(within(player, 0, 5));
        supported(e.state() == 's' && e.player != player);
        e.rejected = true;
        return !e.verifiers.isEmpty();
    }

    public char stateOf(int run) {
        return entry(run).state();
    }

    public int ban(int player) {
        index(within(player, 0, 5));
        supported(!bans.containsKey(player));
        bans.put(player, today);
        return (int) entries.stream().filter(e -> e.player == player && e.state() == 'v').count();
    }

    public int merge(int category, int into) {
        known(category);
        known(into);
        argument(category != into);
        supported(!isMerged(category) && !isMerged(into));
        int count = (int) entries.stream().filter(e -> home(e.category, today) == category).count();
        mergers.add(new Merger(category, into, today));
        return count;
    }

    private int home(int category, int day) {
        int home = category;
        for (Merger m : mergers) {
            if (m.day <= day && m.category == home) {
                home = m.into;
            }
        }
        return home;
    }

    public int nextDay(int days) {
        argument(within(days, 1, 100));
        argument(today + days <= 5000);
        today += days;
        return today;
    }

    private List<Entry> board(int category, int day) {
        Law law = law(category, day);
        List<Entry> on = new ArrayList<>();
        for (Entry e : entries) {
            boolean counts = e.state() == 'v' && e.day <= day && home(e.category, day) == category;
            if (counts && bans.getOrDefault(e.player, 9999) > day && verdict(e.movie, law) == '.') {
                on.add(e);
            }
        }
        on.sort(Comparator.<Entry>comparingLong(e -> watch(e.movie).total(law.clock))
            .thenComparingInt(e -> e.day).thenComparingInt(e -> e.number));
        return on;
    }

    public int ranked(int category, int index, boolean withObsolete) {
        known(category);
        argument(index >= 0);
        List<Integer> row = new ArrayList<>();
        Set<Integer> seen = new HashSet<>();
        for (Entry e : board(category, today)) {
            if (seen.add(e.player) || withObsolete) {
                row.add(e.number);
            }
        }
        return index < row.size() ? row.get(index) : -1;
    }

    public long timeOf(int run, char clock) {
        Entry e = entry(run);
        argument(clock(clock));
        return watch(e.movie).total(clock);
    }

    public int recordOn(int category, int day) {
        known(category);
        argument(within(day, 0, today));
        List<Entry> on = board(category, day);
        element(!on.isEmpty());
        return on.get(0).number;
    }

    public int stood(int run, int category) {
        Entry e = entry(run);
        known(category);
        int days = 0;
        for (int day = 0; day <= today; day++) {
            List<Entry> on = board(category, day);
            if (!on.isEmpty() && on.get(0) == e) {
                days++;
            }
        }
        return days;
    }

    public int runs() {
        return entries.size();
    }

    public float verifiedShare() {
        if (entries.isEmpty()) {
            throw new ArithmeticException();
        }
        return (float) entries.stream().filter(e -> e.state() == 'v').count() / (float) entries.size();
    }

    public double meanTime(int category) {
        known(category);
        List<Entry> on = board(category, today);
        if (on.isEmpty()) {
            throw new ArithmeticException();
        }
        char clock = law(category, today).clock;
        return (double) on.stream().mapToLong(e -> watch(e.movie).total(clock)).sum() / (double) on.size();
    }

    public boolean isSound() {
        for (int c = 0; c < categories; c++) {
            Law law = law(c, today);
            if (!isShortest(c) || board(c, today).stream().anyMatch(e -> verdict(e.movie, law) != '.')) {
                return false;
            }
        }
        return true;
    }
}
