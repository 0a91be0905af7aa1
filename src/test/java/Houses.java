/** What the edge tests do again and again. */
final class Houses {
    static final int LEAST = Integer.MIN_VALUE;
    static final int GREATEST = Integer.MAX_VALUE;

    private Houses() {
    }

    /** The movie is made anew: it goes through these doors. */
    static void walk(Speedrunnery x, int... doors) {
        x.erase();
        for (int door : doors) {
            x.input(door);
        }
    }

    /** The movie as it is, submitted and verified by two others on this day. */
    static int post(Speedrunnery x, int player, int category) {
        int run = x.submit(player, category);
        x.verify(run, (player + 1) % 6);
        x.verify(run, (player + 2) % 6);
        return run;
    }

    /** A run of nothing but a wait in the room 0, submitted alone. */
    static int handWait(Speedrunnery x, int player, int category, int frames) {
        x.erase();
        x.pause(frames);
        return x.submit(player, category);
    }

    /** A run of nothing but a wait in the room 0, verified on this day. */
    static int postWait(Speedrunnery x, int player, int category, int frames) {
        x.erase();
        x.pause(frames);
        return post(x, player, category);
    }

    /** No doors, and so many categories, which end in the room 0. */
    static Speedrunnery withCategories(int count) {
        Speedrunnery x = new Speedrunnery();
        for (int i = 0; i < count; i++) {
            x.category();
        }
        return x;
    }

    /** A house whose game stays as it is: the run 0 of the player 0, an empty movie, is submitted. */
    static Speedrunnery submitted() {
        Speedrunnery x = withCategories(1);
        x.submit(0, 0);
        return x;
    }

    /** 24 doors from the room 0 to itself: the door n takes n + 2 frames, one of them of loading. */
    static Speedrunnery withAllDoors() {
        Speedrunnery x = new Speedrunnery();
        for (int i = 0; i < 24; i++) {
            x.door(0, 0, i + 2, 1, 0, -1);
        }
        return x;
    }

    /** Doors in a row from the room 0 on, of 10 frames each, without needs. */
    static Speedrunnery row(int doors) {
        Speedrunnery x = new Speedrunnery();
        for (int room = 0; room < doors; room++) {
            x.door(room, room + 1, 10, 0, 0, -1);
        }
        return x;
    }
}
