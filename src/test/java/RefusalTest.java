import java.util.List;
import java.util.function.Supplier;
import java.util.function.ToIntFunction;

/**
 * "Refused, changing nothing, the first of: BAD -2 a number is not as told; NO -3 as told; FULL -4."
 * Each refusal is asked of one of two objects made alike; afterwards both must tell the same.
 */
public final class RefusalTest {
    private static final int NONE = -1, BAD = -2, NO = -3, FULL = -4;
    private static final int[] NOT_LEVELS = {Integer.MIN_VALUE, -1, 3, Integer.MAX_VALUE};
    private static final int[] NOT_WHERE = {Integer.MIN_VALUE, -1, 101, Integer.MAX_VALUE};
    private static final Due DUE = new Due();

    private final String state;
    private final Supplier<GroundKeeper> maker;
    private final List<Long> untouched;
    /** One object more, that is asked for all refusals of the state, one after the other. */
    private final GroundKeeper asked;
    private int calls;

    private RefusalTest(String itsState, Supplier<GroundKeeper> itsMaker) {
        state = itsState;
        maker = itsMaker;
        untouched = Watch.of(itsMaker.get());
        asked = itsMaker.get();
    }

    public static void main(String[] args) {
        for (RefusalTest test : List.of(new RefusalTest("busy", RefusalTest::busy), new RefusalTest("full", RefusalTest::full))) {
            test.badRoomsAndBoxes();
            test.badDoorsAndLedges();
            test.badLadders();
            test.badPlaces();
            test.badWays();
            test.badNumbers();
            test.noneOfTheGround();
            test.end();
        }
        RefusalTest busy = new RefusalTest("busy", RefusalTest::busy);
        busy.noInBusy();
        busy.end();
        RefusalTest full = new RefusalTest("full", RefusalTest::full);
        full.fullOnes();
        full.end();
        statesAreAsMeant();
        DUE.end();
    }

    private void refuse(String what, int due, ToIntFunction<GroundKeeper> call) {
        GroundKeeper touched = maker.get();
        DUE.is(state + ": " + what, call.applyAsInt(touched), due);
        DUE.is(state + ": " + what + ", once more", call.applyAsInt(touched), due);
        DUE.holds(state + ": " + what + " changes nothing", Watch.of(touched).equals(untouched));
        if (calls < 60) {
            calls++;
            DUE.is(state + ": " + what + " behind others", call.applyAsInt(asked), due);
        }
    }

    private void end() {
        DUE.holds(state + ": all of them change nothing", Watch.of(asked).equals(untouched));
    }

    /**
     * Walker 0 is on a long way, 1 stands on door 2, 2 waits for 3, 4 is stuck, 5 is not there yet;
     * box 1 was taken up, door 1 is shut; a way was found.
     */
    private static GroundKeeper busy() {
        GroundKeeper g = new GroundKeeper();
        for (int level = 0; level < 3; level++) {
            g.room(level, 0, 0, 20, 20);
        }
        g.room(0, 30, 0, 40, 20);
        g.box(0, 5, 5, 8, 8);
        g.box(0, 12, 12, 14, 14);
        g.box(0, 12, 4, 14, 14);
        g.door(0, 10, 0, 10, 4);
        g.door(0, 10, 16, 10, 20);
        g.shut(1, true);
        g.door(0, 2, 15, 2, 18);
        g.ledge(1, 10, 0, 10, 20, true);
        g.ladder(0, 15, 3, 1, 3, 3, 100);
        g.walker(0, 1, 1);
        g.walker(0, 2, 16);
        g.walker(1, 5, 5);
        g.walker(1, 9, 5);
        g.walker(2, 5, 5);
        g.go(2, 1, 9, 5);
        g.go(4, 2, 15, 5);
        g.box(2, 14, 4, 16, 6);
        g.take(1);
        g.tick(5);
        g.go(0, 1, 12, 19);
        g.way(0, 1, 1, 1, 9, 9);
        return g;
    }

    /** All that there can be; walkers 0 to 2 have a way ahead. */
    private static GroundKeeper full() {
        GroundKeeper g = new GroundKeeper();
        for (int i = 0; i < 12; i++) {
            g.room(i % 3, i / 3 * 5, 0, i / 3 * 5 + 5, 20);
        }
        for (int i = 0; i < 8; i++) {
            g.box(i % 3, 3 * (i / 3) + 1, 4, 3 * (i / 3) + 3, 8);
        }
        for (int i = 0; i < 6; i++) {
            g.door(i % 3, 11 + i, 0, 11 + i, 9);
            g.ledge(i % 3, 0, 11 + i, 15, 11 + i, i < 3);
            g.ladder(i % 3, 18, i, (i + 1) % 3, 19, i, 50 * i);
            g.walker(i % 3, 10, i);
        }
        g.shut(4, true);
        for (int i = 0; i < 3; i++) {
            g.go(i, (i + 1) % 3, 19, 19);
        }
        g.way(0, 1, 1, 2, 20, 20);
        return g;
    }

    private static void statesAreAsMeant() {
        GroundKeeper g = busy();
        DUE.holds("0 has a row", g.about(0, 3) > 1);
        DUE.is("2 waited", g.about(2, 4), 2);
        DUE.is("2 looked", g.about(2, 8), 1);
        DUE.is("4 is stuck", g.about(4, 5), 1);
        DUE.holds("a way was found", g.bend(3, 0) >= 0);
        DUE.is("boxes down", g.count(1), 3);
        GroundKeeper f = full();
        int[] due = {12, 8, 6, 1, 6, 6, 6, 0};
        for (int what = 0; what < 8; what++) {
            DUE.is("full: count " + what, f.count(what), due[what]);
        }
        DUE.holds("full: rows", f.about(0, 3) > 0 && f.about(1, 3) > 0 && f.about(2, 3) > 0);
        DUE.holds("full: a way", f.bend(2, 0) >= 0);
    }

    /** Of boxes: these would hold a walker, too; of both: in the full state there are too many. */
    private void badRoomsAndBoxes() {
        for (int bad : NOT_LEVELS) {
            refuse("room, level " + bad, BAD, g -> g.room(bad, 0, 0, 20, 20));
            refuse("box, level " + bad, BAD, g -> g.box(bad, 0, 0, 20, 20));
        }
        for (int bad : NOT_WHERE) {
            refuse("room, x0 " + bad, BAD, g -> g.room(0, bad, 0, 20, 20));
            refuse("room, y0 " + bad, BAD, g -> g.room(0, 0, bad, 20, 20));
            refuse("room, x1 " + bad, BAD, g -> g.room(0, 0, 0, bad, 20));
            refuse("room, y1 " + bad, BAD, g -> g.room(0, 0, 0, 20, bad));
            refuse("box, x0 " + bad, BAD, g -> g.box(0, bad, 0, 20, 20));
            refuse("box, y0 " + bad, BAD, g -> g.box(0, 0, bad, 20, 20));
            refuse("box, x1 " + bad, BAD, g -> g.box(0, 0, 0, bad, 20));
            refuse("box, y1 " + bad, BAD, g -> g.box(0, 0, 0, 20, bad));
        }
        refuse("room, no breadth", BAD, g -> g.room(0, 4, 1, 4, 9));
        refuse("room, no height", BAD, g -> g.room(0, 1, 4, 9, 4));
        refuse("room, x turned", BAD, g -> g.room(0, 9, 1, 4, 9));
        refuse("room, y turned", BAD, g -> g.room(0, 1, 9, 9, 4));
        refuse("box, no breadth", BAD, g -> g.box(0, 4, 1, 4, 9));
        refuse("box, no height", BAD, g -> g.box(0, 1, 4, 9, 4));
        refuse("box, x turned", BAD, g -> g.box(0, 20, 0, 0, 20));
        refuse("box, y turned", BAD, g -> g.box(0, 0, 20, 20, 0));
    }

    private void badDoorsAndLedges() {
        for (int bad : NOT_LEVELS) {
            refuse("door, level " + bad, BAD, g -> g.door(bad, 5, 0, 5, 9));
            refuse("ledge, level " + bad, BAD, g -> g.ledge(bad, 5, 0, 5, 9, true));
        }
        for (int bad : NOT_WHERE) {
            refuse("door, x0 " + bad, BAD, g -> g.door(0, bad, 0, 9, 0));
            refuse("door, y0 " + bad, BAD, g -> g.door(0, 0, bad, 0, 9));
            refuse("door, x1 " + bad, BAD, g -> g.door(0, 0, 0, bad, 0));
            refuse("door, y1 " + bad, BAD, g -> g.door(0, 0, 0, 0, bad));
            refuse("ledge, x0 " + bad, BAD, g -> g.ledge(0, bad, 0, 9, 0, true));
            refuse("ledge, y0 " + bad, BAD, g -> g.ledge(0, 0, bad, 0, 9, true));
            refuse("ledge, x1 " + bad, BAD, g -> g.ledge(0, 0, 0, bad, 0, false));
            refuse("ledge, y1 " + bad, BAD, g -> g.ledge(0, 0, 0, 0, bad, false));
        }
        refuse("door, alike in both", BAD, g -> g.door(0, 7, 7, 7, 7));
        refuse("door, alike in none", BAD, g -> g.door(0, 7, 7, 8, 9));
        refuse("ledge, alike in both", BAD, g -> g.ledge(0, 7, 7, 7, 7, true));
        refuse("ledge, alike in none", BAD, g -> g.ledge(0, 7, 7, 8, 9, true));
    }

    private void badLadders() {
        for (int bad : NOT_LEVELS) {
            refuse("ladder, level " + bad, BAD, g -> g.ladder(bad, 1, 1, 0, 1, 1, 1));
            refuse("ladder, other " + bad, BAD, g -> g.ladder(0, 1, 1, bad, 1, 1, 1));
            refuse("ladder, both " + bad, BAD, g -> g.ladder(bad, 1, 1, bad, 1, 1, 1));
        }
        for (int bad : NOT_WHERE) {
            refuse("ladder, x " + bad, BAD, g -> g.ladder(0, bad, 1, 1, 1, 1, 1));
            refuse("ladder, y " + bad, BAD, g -> g.ladder(0, 1, bad, 1, 1, 1, 1));
            refuse("ladder, ox " + bad, BAD, g -> g.ladder(0, 1, 1, 1, bad, 1, 1));
            refuse("ladder, oy " + bad, BAD, g -> g.ladder(0, 1, 1, 1, 1, bad, 1));
        }
        for (int bad : new int[] {Integer.MIN_VALUE, -1, 1000001, Integer.MAX_VALUE}) {
            refuse("ladder, cost " + bad, BAD, g -> g.ladder(0, 1, 1, 1, 1, 1, bad));
        }
        for (int level = 0; level < 3; level++) {
            int one = level;
            refuse("ladder, one level " + level, BAD, g -> g.ladder(one, 1, 1, one, 2, 2, 1));
        }
    }

    private void badPlaces() {
        for (int bad : NOT_LEVELS) {
            refuse("may, level " + bad, BAD, g -> g.may(bad, 1, 1));
            refuse("see, level " + bad, BAD, g -> g.see(bad, 1, 1, 2, 2));
            refuse("reach, level " + bad, BAD, g -> g.reach(bad, 1, 1));
            refuse("walker, level " + bad, BAD, g -> g.walker(bad, 1, 2));
            refuse("go, level " + bad, BAD, g -> g.go(0, bad, 1, 2));
        }
        for (int bad : NOT_WHERE) {
            refuse("may, x " + bad, BAD, g -> g.may(0, bad, 1));
            refuse("may, y " + bad, BAD, g -> g.may(0, 1, bad));
            refuse("see, x " + bad, BAD, g -> g.see(0, bad, 1, 2, 2));
            refuse("see, y " + bad, BAD, g -> g.see(0, 1, bad, 2, 2));
            refuse("see, ox " + bad, BAD, g -> g.see(0, 1, 1, bad, 2));
            refuse("see, oy " + bad, BAD, g -> g.see(0, 1, 1, 2, bad));
            refuse("reach, x " + bad, BAD, g -> g.reach(0, bad, 1));
            refuse("reach, y " + bad, BAD, g -> g.reach(0, 1, bad));
            refuse("walker, x " + bad, BAD, g -> g.walker(0, bad, 2));
            refuse("walker, y " + bad, BAD, g -> g.walker(0, 1, bad));
            refuse("go, x " + bad, BAD, g -> g.go(0, 0, bad, 2));
            refuse("go, y " + bad, BAD, g -> g.go(0, 0, 1, bad));
        }
    }

    /** The other one of both places is off the ground: BAD comes before NO. */
    private void badWays() {
        for (int bad : NOT_LEVELS) {
            refuse("way, level " + bad, BAD, g -> g.way(bad, 1, 1, 0, 99, 99));
            refuse("way, other " + bad, BAD, g -> g.way(0, 99, 99, bad, 2, 2));
        }
        for (int bad : NOT_WHERE) {
            refuse("way, x " + bad, BAD, g -> g.way(0, bad, 1, 0, 99, 99));
            refuse("way, y " + bad, BAD, g -> g.way(0, 1, bad, 0, 99, 99));
            refuse("way, ox " + bad, BAD, g -> g.way(0, 99, 99, 0, bad, 2));
            refuse("way, oy " + bad, BAD, g -> g.way(0, 99, 99, 0, 2, bad));
        }
    }

    private void badNumbers() {
        for (int bad : new int[] {Integer.MIN_VALUE, -1, 8, Integer.MAX_VALUE}) {
            refuse("take " + bad, BAD, g -> g.take(bad));
            refuse("count " + bad, BAD, g -> g.count(bad));
        }
        for (int bad : new int[] {Integer.MIN_VALUE, -1, 6, Integer.MAX_VALUE}) {
            refuse("shut " + bad, BAD, g -> g.shut(bad, true));
            refuse("open " + bad, BAD, g -> g.shut(bad, false));
            refuse("go, walker " + bad, BAD, g -> g.go(bad, 0, 1, 2));
            refuse("go, walker " + bad + ", off the ground", BAD, g -> g.go(bad, 0, 99, 99));
            refuse("about, walker " + bad, BAD, g -> g.about(bad, 0));
        }
        for (int bad : new int[] {Integer.MIN_VALUE, -1, 0, 11, Integer.MAX_VALUE}) {
            refuse("tick " + bad, BAD, g -> g.tick(bad));
        }
        for (int bad : new int[] {Integer.MIN_VALUE, -1, 9, Integer.MAX_VALUE}) {
            refuse("about, what " + bad, BAD, g -> g.about(0, bad));
        }
        for (int bad : new int[] {Integer.MIN_VALUE, -1, 3, Integer.MAX_VALUE}) {
            refuse("bend, what " + bad, BAD, g -> g.bend(0, bad));
            refuse("bend, what " + bad + ", not so many", BAD, g -> g.bend(90, bad));
        }
        refuse("bend, below 0", BAD, g -> g.bend(-1, 0));
        refuse("bend, far below 0", BAD, g -> g.bend(Integer.MIN_VALUE, 2));
        refuse("bend, not so many", NONE, g -> g.bend(90, 0));
        refuse("bend, far from so many", NONE, g -> g.bend(Integer.MAX_VALUE, 2));
    }

    private void noneOfTheGround() {
        refuse("way from off the ground", NO, g -> g.way(0, 99, 99, 0, 1, 1));
        refuse("way to off the ground", NO, g -> g.way(0, 1, 1, 0, 99, 99));
        refuse("way from and to off the ground", NO, g -> g.way(0, 99, 99, 0, 99, 99));
        refuse("reach from off the ground", NO, g -> g.reach(0, 99, 99));
        refuse("walker off the ground", NO, g -> g.walker(0, 99, 99));
        refuse("go off the ground", NO, g -> g.go(0, 0, 99, 99));
    }

    private void noInBusy() {
        refuse("box, walker 0 inside", NO, g -> g.box(0, 0, 0, 2, 2));
        refuse("box, walkers 2 and 3 inside", NO, g -> g.box(1, 0, 0, 20, 20));
        refuse("take one that was taken up", NO, g -> g.take(1));
        refuse("take one that was never down", NO, g -> g.take(7));
        refuse("open a door that is open", NO, g -> g.shut(0, false));
        refuse("shut a door that is shut", NO, g -> g.shut(1, true));
        refuse("shut a door with one on it", NO, g -> g.shut(2, true));
        refuse("open that door, which is open", NO, g -> g.shut(2, false));
        refuse("shut a door that has not come", BAD, g -> g.shut(3, true));
        refuse("way from inside a box", NO, g -> g.way(0, 6, 6, 0, 1, 1));
        refuse("way to inside a box", NO, g -> g.way(0, 1, 1, 0, 6, 6));
        refuse("reach from inside a box", NO, g -> g.reach(0, 6, 6));
        refuse("walker inside a box", NO, g -> g.walker(0, 6, 6));
        refuse("walker on a shut door", NO, g -> g.walker(0, 10, 18));
        refuse("walker where one stands", NO, g -> g.walker(1, 9, 5));
        refuse("go to inside a box", NO, g -> g.go(0, 0, 6, 6));
        refuse("tell the stuck one to go inside a box", NO, g -> g.go(4, 2, 15, 5));
        refuse("tell one who waits to go off the ground", NO, g -> g.go(2, 1, 21, 5));
        refuse("a walker that has not come", BAD, g -> g.go(5, 0, 1, 2));
        refuse("about a walker that has not come", BAD, g -> g.about(5, 0));
        refuse("a way that there is not", NONE, g -> g.way(0, 1, 1, 0, 35, 5));
        refuse("may", 1, g -> g.may(0, 1, 1));
        refuse("may not", 0, g -> g.may(0, 6, 6));
        refuse("see", 1, g -> g.see(0, 0, 0, 20, 0));
        refuse("see no ground", 0, g -> g.see(0, 0, 0, 21, 0));
        refuse("see a shut door", -10, g -> g.see(0, 0, 20, 20, 20));
        refuse("see a ledge", -11, g -> g.see(1, 20, 5, 0, 5));
        refuse("reach", 4, g -> g.reach(2, 5, 5));
    }

    private void fullOnes() {
        refuse("room 12", FULL, g -> g.room(2, 30, 30, 40, 40));
        refuse("box 8", FULL, g -> g.box(2, 15, 15, 16, 16));
        refuse("box 8 with one inside", NO, g -> g.box(0, 9, 0, 11, 4));
        refuse("box 8 with one on its edge", FULL, g -> g.box(0, 8, 0, 10, 20));
        refuse("door 6", FULL, g -> g.door(0, 3, 0, 3, 20));
        refuse("ledge 6", FULL, g -> g.ledge(0, 0, 9, 20, 9, true));
        refuse("ladder 6", FULL, g -> g.ladder(0, 1, 1, 1, 1, 1, 0));
        refuse("walker 6", FULL, g -> g.walker(2, 1, 1));
        refuse("walker 6 where one stands", NO, g -> g.walker(0, 10, 3));
        refuse("walker 6 on a shut door", NO, g -> g.walker(1, 15, 3));
        refuse("walker 6 inside a box", NO, g -> g.walker(0, 2, 6));
        refuse("shut a door that is shut", NO, g -> g.shut(4, true));
        refuse("open a door that is open", NO, g -> g.shut(5, false));
    }
}
