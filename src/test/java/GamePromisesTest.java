/** Promises 1 to 16: the game, its spheres and shuffles, and the movie. */
final class GamePromisesTest {
    private static Speedrunnery withDoors(int... fromTo) {
        Speedrunnery x = new Speedrunnery();
        for (int i = 0; i + 1 < fromTo.length; i += 2) {
            x.door(fromTo[i], fromTo[i + 1], 10, 0, 0, -1);
        }
        return x;
    }

    private static Speedrunnery submitted() {
        Speedrunnery x = new Speedrunnery();
        x.category();
        x.submit(0, 0);
        return x;
    }

    private static void newObject() {
        Speedrunnery x = new Speedrunnery();
        for (int room = 0; room < 12; room++) {
            int r = room;
            Check.is("1: no item in " + r, -1, () -> x.itemIn(r));
            Check.is("1: rate of " + r, 1, () -> x.setRate(r, 1));
        }
        Check.index("1: no door", () -> x.input(0));
        Check.index("1: no category", () -> x.judge(0));
        Check.is("1: no run", 0, x::runs);
        Check.is("1: no sphere", 0, x::spheres);
        Check.is("1: nothing is had", 0, x::had);
        Check.is("1: in the room 0", 0, x::ends);
        Check.is("1: the day", 1, () -> x.nextDay(1));
    }

    private static void door() {
        Speedrunnery x = new Speedrunnery();
        Check.is("2: first", 0, () -> x.door(0, 11, 1, 0, 0, -1));
        Check.is("2: to itself, all at the most", 1, () -> x.door(11, 11, 999, 998, 255, 7));
        Check.index("2: from -1", () -> x.door(-1, 0, 1, 0, 0, -1));
        Check.index("2: from 12", () -> x.door(12, 0, 1, 0, 0, -1));
        Check.index("2: to -1", () -> x.door(0, -1, 1, 0, 0, -1));
        Check.index("2: to 12 ahead of frames", () -> x.door(0, 12, 0, 0, 0, -1));
        Check.argument("2: frames 0", () -> x.door(0, 0, 0, 0, 0, -1));
        Check.argument("2: frames 1000", () -> x.door(0, 0, 1000, 0, 0, -1));
        Check.argument("2: loading -1", () -> x.door(0, 0, 5, -1, 0, -1));
        Check.argument("2: all loading", () -> x.door(0, 0, 5, 5, 0, -1));
        Check.argument("2: needs -1", () -> x.door(0, 0, 5, 0, -1, -1));
        Check.argument("2: needs 256", () -> x.door(0, 0, 5, 0, 256, -1));
        Check.argument("2: glitch -2", () -> x.door(0, 0, 5, 0, 0, -2));
        Check.argument("2: glitch 8", () -> x.door(0, 0, 5, 0, 0, 8));
        for (int i = 2; i < 24; i++) {
            int due = i;
            Check.is("2: door " + i, due, () -> x.door(1, 2, 5, 4, 1, 0));
        }
        Check.state("2: door 24", () -> x.door(0, 0, 5, 0, 0, -1));
        Check.argument("2: bad door 24", () -> x.door(0, 0, 5, 0, 0, 8));
        x.category();
        x.submit(0, 0);
        Check.unsupported("2: submitted ahead of 24 doors", () -> x.door(0, 0, 5, 0, 0, -1));
        Check.argument("2: bad ahead of submitted", () -> x.door(0, 0, 0, 0, 0, -1));
        Check.index("2: no such door 24", () -> x.input(24));
        Check.is("2: door 23", 1, () -> x.input(23));
    }

    private static void putItem() {
        Speedrunnery x = new Speedrunnery();
        Check.is("3: first", -1, () -> x.putItem(3, 5));
        Check.is("3: in place", 5, () -> x.putItem(3, 0));
        Check.is("3: out of where it was", -1, () -> x.putItem(11, 0));
        Check.is("3: gone", -1, () -> x.itemIn(3));
        Check.is("3: there", 0, () -> x.itemIn(11));
        Check.is("3: the same again", 0, () -> x.putItem(11, 0));
        Check.is("3: still there", 0, () -> x.itemIn(11));
        x.putItem(0, 7);
        Check.is("3: none", 0, () -> x.putItem(11, -1));
        Check.is("3: none is there", -1, () -> x.itemIn(11));
        Check.is("3: none takes no other away", 7, () -> x.itemIn(0));
        Check.index("3: room 12", () -> x.putItem(12, 9));
        Check.index("3: room -1", () -> x.putItem(-1, 0));
        Check.argument("3: item 8", () -> x.putItem(0, 8));
        Check.argument("3: item -2", () -> x.putItem(0, -2));
        Check.unsupported("3: submitted", () -> submitted().putItem(0, 0));
        Check.argument("3: item ahead of submitted", () -> submitted().putItem(0, 8));
    }

    private static void setRate() {
        Speedrunnery x = new Speedrunnery();
        Check.is("4: one at first", 1, () -> x.setRate(11, 4));
        Check.is("4: then as set", 4, () -> x.setRate(11, 2));
        Check.is("4: others stay", 1, () -> x.setRate(10, 1));
        Check.index("4: room 12", () -> x.setRate(12, 0));
        Check.index("4: room -1", () -> x.setRate(-1, 1));
        Check.argument("4: rate 0", () -> x.setRate(0, 0));
        Check.argument("4: rate 5", () -> x.setRate(0, 5));
        Check.is("4: nothing changed", 1, () -> x.setRate(0, 3));
        Check.unsupported("4: submitted", () -> submitted().setRate(0, 1));
        Check.argument("4: rate ahead of submitted", () -> submitted().setRate(0, 5));
    }

    private static void itemIn() {
        Speedrunnery x = submitted();
        Check.is("5: none", -1, () -> x.itemIn(11));
        Check.index("5: room 12", () -> x.itemIn(12));
        Check.index("5: room -1", () -> x.itemIn(-1));
    }

    private static void shuffle() {
        Speedrunnery x = withDoors(0, 1, 1, 2, 2, 3);
        for (int i = 0; i < 4; i++) {
            x.putItem(i, i);
        }
        // z is 12345, 3554416254, 2802067423: so the rooms 3 and 0, 2 and 2, 1 and 0 change places
        Check.is("6: seed 0", 0, () -> x.shuffle(0));
        int[] due = {1, 3, 2, 0};
        for (int i = 0; i < 4; i++) {
            int room = i;
            Check.is("6: item of " + i, due[room], () -> x.itemIn(room));
        }
        Check.is("6: no items", 77, () -> new Speedrunnery().shuffle(77));
        Speedrunnery shut = new Speedrunnery();
        shut.putItem(0, 0);
        shut.putItem(4, 1);
        Check.is("6: none of 50", -1, () -> shut.shuffle(3));
        Check.is("6: nothing changes", 1, () -> shut.itemIn(4));
        Check.is("6: nothing changes at 0", 0, () -> shut.itemIn(0));
        shut.door(0, 4, 1, 0, 0, 2);
        Check.is("6: a glitch door does not count", -1, () -> shut.shuffle(3));
        Check.unsupported("6: submitted", () -> submitted().shuffle(1));
        shuffleTriesOn();
        shuffleTriesFifty();
    }

    /** Only one order of five items will do, and between the seeds 29 and 121 none makes it. */
    private static void shuffleTriesFifty() {
        Speedrunnery x = new Speedrunnery();
        for (int i = 0; i < 5; i++) {
            x.putItem(i, i);
            x.door(i, i + 1, 1, 0, (2 << i) - 1, -1);
        }
        Check.is("6: the 50th of 50", 121, () -> x.shuffle(72));
        for (int i = 0; i < 5; i++) {
            x.putItem(i, i);
        }
        Check.is("6: the 51st is not tried", -1, () -> x.shuffle(71));
        for (int i = 0; i < 5; i++) {
            int room = i;
            Check.is("6: all as it was in " + i, room, () -> x.itemIn(room));
        }
        x.putItem(4, -1);
        x.putItem(3, -1);
        x.door(0, 1, 1, 0, 0, -1);
        x.door(0, 2, 1, 0, 0, -1);
        Check.is("6: fewer items than before", 12, () -> x.shuffle(12));
        Check.is("6: none comes back", -1, () -> x.itemIn(4));
        Check.is("6: three are shuffled", 2, () -> x.itemIn(0));
    }

    /** Two items that change places or not, and only one way will do: so the seeds tell apart. */
    private static void shuffleTriesOn() {
        for (int seed = Integer.MAX_VALUE - 60; seed != Integer.MIN_VALUE + 60; seed++) {
            Speedrunnery x = new Speedrunnery();
            x.putItem(0, 0);
            x.putItem(1, 1);
            x.door(0, 1, 1, 0, 2, -1);
            int s = seed;
            int due = seed;
            while (((due * 1103515245 + 12345 >>> 16) & 1) == 1) {
                due++;
            }
            int found = due;
            Check.is("6: from seed " + seed, found, () -> x.shuffle(s));
            Check.is("6: changed by seed " + seed, 1, () -> x.itemIn(0));
            Check.is("6: changed by seed " + seed, 0, () -> x.itemIn(1));
        }
    }

    private static Speedrunnery threeSpheres() {
        Speedrunnery x = new Speedrunnery();
        x.putItem(0, 7);
        x.putItem(1, 1);
        x.putItem(2, 2);
        x.putItem(3, 3);
        x.putItem(9, 4);
        x.door(1, 2, 1, 0, 2, -1);
        x.door(2, 3, 1, 0, 6, -1);
        x.door(0, 1, 1, 0, 128, -1);
        x.door(0, 9, 1, 0, 0, 3);
        return x;
    }

    private static void spheres() {
        Check.is("7: four", 4, () -> threeSpheres().spheres());
        Speedrunnery x = new Speedrunnery();
        Check.is("7: none", 0, x::spheres);
        x.putItem(5, 0);
        Check.is("7: not had", 0, x::spheres);
        x.door(0, 4, 1, 0, 0, -1);
        x.door(4, 5, 1, 0, 0, -1);
        Check.is("7: by two doors", 1, x::spheres);
        x.putItem(0, 1);
        Check.is("7: both at once", 1, x::spheres);
        x.putItem(5, -1);
        x.putItem(0, -1);
        Check.is("7: none again", 0, x::spheres);
        Check.noElement("8: none again", () -> x.sphereOf(1));
        x.putItem(5, 3);
        x.erase();
        x.category();
        x.submit(0, 0);
        Check.is("7: after a run too", 1, x::spheres);
    }

    private static void sphereOf() {
        Speedrunnery x = threeSpheres();
        Check.is("8: at 0", 0, () -> x.sphereOf(7));
        Check.is("8: behind it", 1, () -> x.sphereOf(1));
        Check.is("8: behind that", 2, () -> x.sphereOf(2));
        Check.is("8: the last", 3, () -> x.sphereOf(3));
        Check.noElement("8: behind a glitch", () -> x.sphereOf(4));
        Check.noElement("8: in no room", () -> x.sphereOf(0));
        Check.argument("8: item 8", () -> x.sphereOf(8));
        Check.argument("8: item -1", () -> x.sphereOf(-1));
    }

    private static void inputs() {
        Speedrunnery x = withDoors(0, 1, 1, 0);
        Check.index("9: door 2", () -> x.input(2));
        Check.index("9: door -1", () -> x.input(-1));
        Check.argument("10: 0 frames", () -> x.pause(0));
        Check.argument("10: 1000 frames", () -> x.pause(1000));
        Check.argument("10: fewer than 0", () -> x.pause(-5));
        for (int i = 0; i < 20; i++) {
            int before = 2 * i;
            Check.is("9: input " + before, before + 1, () -> x.input(before % 4 / 2));
            Check.is("10: wait " + before, before + 2, () -> x.pause(before % 2 == 0 ? 999 : 1));
        }
        Check.state("9: 40 inputs", () -> x.input(0));
        Check.state("10: 40 inputs", () -> x.pause(1));
        Check.index("9: no door ahead of 40", () -> x.input(2));
        Check.argument("10: no wait ahead of 40", () -> x.pause(0));
        Check.is("11: erased", 40, x::erase);
        Check.is("11: nothing left", 0, x::erase);
        Check.is("11: begins again", 1, () -> x.pause(7));
        Check.is("11: the old ones are gone", 7L, () -> x.ticks('r'));
    }

    private static void play() {
        Speedrunnery x = withDoors(0, 1, 1, 2);
        x.door(2, 3, 50, 20, 5, 1);
        x.putItem(1, 0);
        Check.is("12: no inputs", '.', x::play);
        x.input(1);
        Check.is("12: from another room", 'r', x::play);
        Check.is("13: at the first", 0, x::desync);
        x.erase();
        x.pause(4);
        x.input(0);
        x.input(1);
        Check.is("12: to its end", '.', x::play);
        Check.noElement("13: does not", x::desync);
        x.input(2);
        x.input(0);
        Check.is("12: items lack", 'i', x::play);
        Check.is("13: at the fourth", 3, x::desync);
        Check.is("14: where it desyncs", 2, x::ends);
        Check.is("15: had where it desyncs", 1, x::had);
        Check.is("16: up to the desync", 24L, () -> x.ticks('r'));
        x.putItem(0, 2);
        Check.is("12: plays as the game is now", 'r', x::play);
        Check.is("13: then at the fifth", 4, x::desync);
        Check.is("15: had now", 5, x::had);
        x.erase();
        x.input(0);
        x.input(0);
        x.input(2);
        Check.is("12: r where both apply", 'r', x::play);
        Check.is("13: the first desync only", 1, x::desync);
    }

    private static void endsAndHad() {
        Speedrunnery x = withDoors(0, 1, 1, 0, 0, 11);
        x.putItem(0, 0);
        x.putItem(1, 7);
        Check.is("14: begins in 0", 0, x::ends);
        Check.is("15: the item of 0", 1, x::had);
        x.input(0);
        Check.is("14: in 1", 1, x::ends);
        Check.is("15: both", 129, x::had);
        x.input(1);
        x.input(2);
        x.pause(1);
        Check.is("14: in 11", 11, x::ends);
        Check.is("15: kept", 129, x::had);
        x.erase();
        Check.is("14: in 0 again", 0, x::ends);
        Check.is("15: the item of 0 alone", 1, x::had);
    }

    private static void ticks() {
        Speedrunnery x = new Speedrunnery();
        x.setRate(0, 3);
        x.setRate(1, 4);
        x.setRate(2, 2);
        x.door(0, 1, 100, 40, 0, -1);
        x.door(1, 2, 10, 9, 0, -1);
        Check.is("16: none", 0L, () -> x.ticks('r'));
        x.input(0);
        Check.is("16: by the rate of where it leads from", 300L, () -> x.ticks('r'));
        Check.is("16: without loading", 180L, () -> x.ticks('g'));
        x.pause(5);
        Check.is("16: a wait", 320L, () -> x.ticks('r'));
        Check.is("16: a wait in the game", 200L, () -> x.ticks('g'));
        x.input(1);
        x.pause(999);
        Check.is("16: all", 2358L, () -> x.ticks('r'));
        Check.is("16: all in the game", 2202L, () -> x.ticks('g'));
        Check.argument("16: no clock", () -> x.ticks('R'));
        Check.argument("16: clock 0", () -> x.ticks((char) 0));
        x.erase();
        for (int i = 0; i < 40; i++) {
            x.pause(999);
        }
        Check.is("16: the longest", 119880L, () -> x.ticks('g'));
    }

    public static void main(String[] args) {
        newObject();
        door();
        putItem();
        setRate();
        itemIn();
        shuffle();
        spheres();
        sphereOf();
        inputs();
        play();
        endsAndHad();
        ticks();
        Check.end();
    }
}
