/**
 * "An object is used for at most 512 calls after it has been made": runs that are as long as that, on
 * what grows with each call. Every object here is asked exactly 512 times.
 */
public final class LongRunTest {
    private static final int NONE = -1, BAD = -2, NO = -3, FULL = -4;
    private static final int CALLS = 512;
    private static final Due DUE = new Due();

    /** Counts what it is asked, so that each run is as long as it should be. */
    private static final class Run {
        final GroundKeeper g = new GroundKeeper();
        final String name;
        int calls;

        Run(String itsName) {
            name = itsName;
        }

        void is(String what, long got, long want) {
            calls++;
            DUE.is(name + ", call " + calls + ": " + what, got, want);
        }

        int left() {
            return CALLS - calls;
        }

        void end() {
            DUE.is(name + ": calls", calls, CALLS);
        }
    }

    public static void main(String[] args) {
        ticks();
        boxes();
        doors();
        dearLadders();
        steps();
        waits();
        rowsOfWaysAnew();
        ways();
        refusals();
        DUE.end();
    }

    /** Ten TICKS by each call: the most that there can be. */
    private static void ticks() {
        Run r = new Run("ticks");
        while (r.left() > 2) {
            r.is("tick", r.g.tick(10), 0);
        }
        r.is("ticks", r.g.count(7), 5100);
        long h = 89;
        for (int i = 0; i < 7; i++) {
            h *= 31;
        }
        r.is("digest", r.g.digest(), 31 * h + 5100);
        r.end();
    }

    private static void boxes() {
        Run r = new Run("boxes");
        for (int i = 0; i < 7; i++) {
            r.is("box", r.g.box(0, 0, 0, 5, 5), i);
        }
        for (int i = 0; r.left() > 3; i++) {
            r.is("set down", r.g.box(i % 3, i % 100, 0, i % 100 + 1, 1), 7);
            r.is("taken up", r.g.take(7), 1);
        }
        r.is("set down", r.g.box(0, 0, 0, 5, 5), 7);
        r.is("one more", r.g.box(0, 0, 0, 5, 5), FULL);
        r.is("down", r.g.count(1), 8);
        r.end();
    }

    private static void doors() {
        Run r = new Run("doors");
        r.is("room", r.g.room(0, 0, 0, 20, 20), 0);
        r.is("door", r.g.door(0, 10, 0, 10, 20), 0);
        while (r.left() >= 5) {
            r.is("shut", r.g.shut(0, true), 1);
            r.is("shut again", r.g.shut(0, true), NO);
            r.is("see", r.g.see(0, 0, 0, 20, 20), -10);
            r.is("opened", r.g.shut(0, false), 1);
            r.is("see", r.g.see(0, 0, 0, 20, 20), 1);
        }
        r.end();
    }

    /** The greatest LENGTH that a walker can have gone: six ladders of the greatest cost in each way. */
    private static void dearLadders() {
        Run r = new Run("dear ladders");
        for (int i = 0; i < 7; i++) {
            r.is("room", r.g.room(i % 3, i / 3 * 10, 0, i / 3 * 10 + 1, 1), i);
        }
        for (int i = 0; i < 6; i++) {
            r.is("ladder", r.g.ladder(i % 3, i / 3 * 10, 0, (i + 1) % 3, (i + 1) / 3 * 10, 0, 1000000), i);
        }
        r.is("walker", r.g.walker(0, 0, 0), 0);
        for (int i = 0; r.left() > 2; i++) {
            r.is("go", r.g.go(0, 0, i % 2 == 0 ? 20 : 0, 0), 6);
            r.is("tick", r.g.tick(10), 0);
        }
        r.is("steps", r.g.about(0, 6), 6 * 248);
        r.is("length", r.g.about(0, 7), 248 * 6000000);
        r.end();
    }

    private static void steps() {
        Run r = new Run("steps");
        r.is("room", r.g.room(2, 0, 0, 100, 100), 0);
        r.is("walker", r.g.walker(2, 0, 0), 0);
        for (int i = 0; r.left() > 4; i++) {
            r.is("go", r.g.go(0, 2, i % 2 == 0 ? 100 : 0, i % 2 == 0 ? 100 : 0), 1);
            r.is("tick", r.g.tick(1), 0);
        }
        r.is("steps", r.g.about(0, 6), 253);
        r.is("length", r.g.about(0, 7), 253 * 141421);
        r.is("ticks", r.g.count(7), 253);
        r.is("x", r.g.about(0, 0), 100);
        r.end();
    }

    /** One who never comes to where another one stands: it looks at every third time. */
    private static void waits() {
        Run r = new Run("waits");
        r.is("room", r.g.room(1, 0, 0, 100, 100), 0);
        r.is("walker", r.g.walker(1, 0, 0), 0);
        r.is("walker", r.g.walker(1, 9, 9), 1);
        r.is("go", r.g.go(0, 1, 9, 9), 1);
        while (r.left() > 4) {
            r.is("tick", r.g.tick(10), 1);
        }
        r.is("waited", r.g.about(0, 4), 5040 % 3);
        r.is("looked", r.g.about(0, 8), 5040 / 3);
        r.is("went", r.g.about(0, 6), 0);
        r.is("ticks", r.g.count(7), 5040);
        r.end();
    }

    /** Six walkers who are stuck again and again. */
    private static void rowsOfWaysAnew() {
        Run r = new Run("stuck");
        r.is("room", r.g.room(0, 0, 0, 20, 20), 0);
        r.is("door", r.g.door(0, 10, 0, 10, 20), 0);
        for (int i = 0; i < 6; i++) {
            r.is("walker", r.g.walker(0, i, i), i);
        }
        int rounds = 0;
        while (r.left() >= 11 + 9) {
            for (int i = 0; i < 6; i++) {
                r.is("go", r.g.go(i, 0, 11 + i, i), 1);
            }
            r.is("shut", r.g.shut(0, true), 1);
            r.is("tick", r.g.tick(2), 6);
            r.is("tick", r.g.tick(1), 0);
            r.is("stuck", r.g.about(rounds % 6, 5), 1);
            r.is("opened", r.g.shut(0, false), 1);
            rounds++;
        }
        for (int i = 0; i < 6; i++) {
            r.is("looked", r.g.about(i, 8), rounds);
        }
        r.is("waited", r.g.about(5, 4), 0);
        while (r.left() > 0) {
            r.is("no one goes", r.g.tick(10), 0);
        }
        r.end();
    }

    /** As many nodes as there can be, and ways over all levels. */
    private static void ways() {
        Run r = new Run("ways");
        for (int i = 0; i < 12; i++) {
            r.is("room", r.g.room(i / 4, i % 4 * 25, 0, i % 4 * 25 + 25, 20), i);
        }
        for (int i = 0; i < 8; i++) {
            r.is("box", r.g.box(i % 3, 30 + 10 * (i / 3), 15, 32 + 10 * (i / 3), 18), i);
        }
        for (int i = 0; i < 6; i++) {
            r.is("ladder", r.g.ladder(i % 2, 100, 10, i % 2 + 1, 100, 10, 1000 + i), i);
        }
        while (r.left() >= 6) {
            r.is("over all levels", r.g.way(0, 0, 10, 2, 0, 10), 100000 + 1000 + 1001 + 100000);
            r.is("its last place", r.g.bend(4, 2), 2);
            r.is("no more", r.g.bend(5, 2), NONE);
            r.is("all corners", r.g.reach(1, 50, 10), 48);
            r.is("along a street", r.g.way(1, 100, 10, 1, 0, 10), 100000);
            r.is("its last place", r.g.bend(1, 0), 0);
        }
        r.end();
    }

    /** Calls that are refused use nothing up. */
    private static void refusals() {
        Run r = new Run("refusals");
        while (r.left() > 6 + 6) {
            r.is("room", r.g.room(0, 5, 5, 5, 6), BAD);
            r.is("box", r.g.box(0, 5, 5, 4, 6), BAD);
            r.is("door", r.g.door(0, 5, 5, 5, 5), BAD);
            r.is("ledge", r.g.ledge(0, 5, 5, 6, 6, true), BAD);
            r.is("ladder", r.g.ladder(0, 5, 5, 0, 6, 6, 1), BAD);
            r.is("walker", r.g.walker(0, 5, 5), NO);
            r.is("way", r.g.way(0, 5, 5, 1, 6, 6), NO);
            r.is("go", r.g.go(0, 0, 5, 5), BAD);
            r.is("tick", r.g.tick(11), BAD);
            r.is("take", r.g.take(0), NO);
        }
        r.is("the first room", r.g.room(0, 0, 0, 20, 20), 0);
        r.is("the first box", r.g.box(0, 1, 1, 3, 3), 0);
        r.is("the first door", r.g.door(0, 5, 5, 5, 9), 0);
        r.is("the first ledge", r.g.ledge(0, 6, 5, 6, 9, true), 0);
        r.is("the first ladder", r.g.ladder(0, 5, 5, 1, 6, 6, 1), 0);
        r.is("the first walker", r.g.walker(0, 5, 5), 0);
        while (r.left() > 0) {
            r.is("no tick was", r.g.count(7), 0);
        }
        r.end();
    }
}
