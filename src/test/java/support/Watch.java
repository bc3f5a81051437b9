import java.util.ArrayList;
import java.util.List;

/**
 * All that can be seen of an object from outside, by less than 400 calls: what it tells now, how its
 * walkers go on, and which numbers come next. Two objects in the same state tell the same.
 */
final class Watch {
    private final GroundKeeper g;
    private final List<Long> seen = new ArrayList<>();

    private Watch(GroundKeeper watched) {
        g = watched;
    }

    /** The object is not fit for anything else afterwards. */
    static List<Long> of(GroundKeeper watched) {
        Watch watch = new Watch(watched);
        watch.bends(8);
        watch.walkersAndCounts();
        watch.places();
        watch.legs();
        watch.ways();
        watch.turns();
        watch.nextNumbers();
        return watch.seen;
    }

    private void add(long answer) {
        seen.add(answer);
    }

    private void bends(int most) {
        for (int i = 0; i < most; i++) {
            for (int what = 0; what < 3; what++) {
                add(g.bend(i, what));
            }
        }
    }

    private void walkersAndCounts() {
        for (int what = 0; what < 8; what++) {
            add(g.count(what));
        }
        for (int walker = 0; walker < 6; walker++) {
            for (int what = 0; what < 9; what++) {
                add(g.about(walker, what));
            }
        }
        add(g.digest());
    }

    private void places() {
        for (int level = 0; level < 3; level++) {
            for (int i = 0; i < 25; i++) {
                add(g.may(level, 1 + i % 5 * 5, 1 + i / 5 * 5));
            }
        }
    }

    private void legs() {
        for (int level = 0; level < 3; level++) {
            for (int i = 0; i <= 20; i += 4) {
                add(g.see(level, 0, i, 20, 20 - i));
                add(g.see(level, i, 20, i, 0));
                add(g.see(level, 20, i, 0, i));
            }
        }
    }

    private void ways() {
        for (int level = 0; level < 3; level++) {
            for (int other = 0; other < 3; other++) {
                add(g.way(level, 1, 2, other, 19, 17));
                add(g.bend(1, 0) * 1000L + g.bend(1, 1));
            }
            add(g.reach(level, 0, 0));
            add(g.reach(level, 20, 20));
        }
    }

    private void turns() {
        for (int i = 0; i < 8; i++) {
            add(g.tick(1));
            add(g.digest());
        }
    }

    private void nextNumbers() {
        for (int i = 0; i < 7; i++) {
            add(g.shut(i, i % 2 == 0));
            add(g.shut(i, true));
        }
        add(g.room(2, 90, 90, 100, 100));
        add(g.door(2, 90, 90, 90, 100));
        add(g.ledge(2, 95, 90, 95, 100, true));
        add(g.ladder(1, 20, 20, 2, 90, 90, 10));
        add(g.walker(2, 99, 99));
        for (int i = 0; i < 9; i++) {
            add(g.box(2, 96, 96, 98, 98));
        }
        add(g.digest());
        for (int i = 0; i < 8; i++) {
            add(g.take(i));
        }
        add(g.digest());
    }
}
