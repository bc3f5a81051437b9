import java.math.BigInteger;
import java.util.ArrayList;
import java.util.List;
import java.util.TreeSet;

/**
 * The document told over again in the slowest and plainest form, with fractions and without any
 * clipping, so that it does not share the program's faults. ModelTest compares both.
 */
final class SlowKeeper {
    record Place(int level, int x, int y) { }

    record Rect(int level, int x0, int y0, int x1, int y1) { }

    record Line(int level, int x0, int y0, int x1, int y1, boolean rising) { }

    record Ladder(Place a, Place b, int cost) { }

    /** A fraction with a denominator above 0. */
    record Fraction(long n, long d) implements Comparable<Fraction> {
        static Fraction of(long n, long d) {
            return d < 0 ? new Fraction(-n, -d) : new Fraction(n, d);
        }

        @Override
        public int compareTo(Fraction o) {
            return Long.compare(n * o.d, o.n * d);
        }

        Fraction middle(Fraction o) {
            return new Fraction(n * o.d + o.n * d, 2 * d * o.d);
        }
    }

    static final class Walker {
        Place at;
        List<Place> row = new ArrayList<>();
        int waits;
        boolean stuck;
        int steps;
        int length;
        int looks;
    }

    private final List<Rect> rooms = new ArrayList<>();
    private final Rect[] boxes = new Rect[8];
    private final List<Line> doors = new ArrayList<>();
    private final List<Boolean> shut = new ArrayList<>();
    private final List<Line> ledges = new ArrayList<>();
    private final List<Ladder> ladders = new ArrayList<>();
    private final List<Walker> walkers = new ArrayList<>();
    private List<Place> latest = new ArrayList<>();
    private int foundLength;
    private int ticks;

    int room(int level, int x0, int y0, int x1, int y1) {
        if (bad(level, x0, y0) || bad(level, x1, y1) || x0 >= x1 || y0 >= y1) return -2;
        if (rooms.size() == 12) return -4;
        rooms.add(new Rect(level, x0, y0, x1, y1));
        return rooms.size() - 1;
    }

    int box(int level, int x0, int y0, int x1, int y1) {
        if (bad(level, x0, y0) || bad(level, x1, y1) || x0 >= x1 || y0 >= y1) return -2;
        Rect r = new Rect(level, x0, y0, x1, y1);
        for (Walker w : walkers) {
            if (w.at.level() == level && inside(r, w.at.x(), w.at.y(), 1)) return -3;
        }
        for (int i = 0; i < 8; i++) {
            if (boxes[i] == null) {
                boxes[i] = r;
                return i;
            }
        }
        return -4;
    }

    int take(int box) {
        if (box < 0 || box > 7) return -2;
        if (boxes[box] == null) return -3;
        boxes[box] = null;
        return 1;
    }

    int door(int level, int x0, int y0, int x1, int y1) {
        if (badLine(level, x0, y0, x1, y1)) return -2;
        if (doors.size() == 6) return -4;
        doors.add(new Line(level, x0, y0, x1, y1, false));
        shut.add(false);
        return doors.size() - 1;
    }

    int shut(int door, boolean to) {
        if (door < 0 || door >= doors.size()) return -2;
        if (shut.get(door) == to) return -3;
        for (Walker w : walkers) {
            if (to && touches(doors.get(door), w.at, w.at)) return -3;
        }
        shut.set(door, to);
        return 1;
    }

    int ledge(int level, int x0, int y0, int x1, int y1, boolean rising) {
        if (badLine(level, x0, y0, x1, y1)) return -2;
        if (ledges.size() == 6) return -4;
        ledges.add(new Line(level, x0, y0, x1, y1, rising));
        return ledges.size() - 1;
    }

    int ladder(int level, int x, int y, int other, int ox, int oy, int cost) {
        if (bad(level, x, y) || bad(other, ox, oy) || level == other || cost < 0 || cost > 1000000) return -2;
        if (ladders.size() == 6) return -4;
        ladders.add(new Ladder(new Place(level, x, y), new Place(other, ox, oy), cost));
        return ladders.size() - 1;
    }

    int may(int level, int x, int y) {
        if (bad(level, x, y)) return -2;
        return onGround(new Place(level, x, y)) ? 1 : 0;
    }

    int see(int level, int x, int y, int ox, int oy) {
        if (bad(level, x, y) || bad(level, ox, oy)) return -2;
        return look(new Place(level, x, y), new Place(level, ox, oy));
    }

    int way(int level, int x, int y, int other, int ox, int oy) {
        if (bad(level, x, y) || bad(other, ox, oy)) return -2;
        Place s = new Place(level, x, y);
        Place t = new Place(other, ox, oy);
        if (!onGround(s) || !onGround(t)) return -3;
        List<Place> found = findWay(s, t, List.of());
        if (found == null) return -1;
        latest = found;
        return foundLength;
    }

    int bend(int i, int what) {
        if (i < 0 || what < 0 || what > 2) return -2;
        if (i >= latest.size()) return -1;
        Place p = latest.get(i);
        return what == 0 ? p.x() : what == 1 ? p.y() : p.level();
    }

    /** One way for each corner, as the words have it. */
    int reach(int level, int x, int y) {
        if (bad(level, x, y)) return -2;
        Place s = new Place(level, x, y);
        if (!onGround(s)) return -3;
        int n = 0;
        for (Rect r : rooms) {
            for (Place c : corners(r)) {
                if (onGround(c) && findWay(s, c, List.of()) != null) n++;
            }
        }
        return n;
    }

    int walker(int level, int x, int y) {
        if (bad(level, x, y)) return -2;
        Place p = new Place(level, x, y);
        if (!onGround(p)) return -3;
        for (int i = 0; i < doors.size(); i++) {
            if (shut.get(i) && touches(doors.get(i), p, p)) return -3;
        }
        for (Walker w : walkers) {
            if (w.at.equals(p)) return -3;
        }
        if (walkers.size() == 6) return -4;
        Walker w = new Walker();
        w.at = p;
        walkers.add(w);
        return walkers.size() - 1;
    }

    int go(int walker, int level, int x, int y) {
        if (walker < 0 || walker >= walkers.size() || bad(level, x, y)) return -2;
        Place t = new Place(level, x, y);
        if (!onGround(t)) return -3;
        Walker w = walkers.get(walker);
        w.stuck = false;
        List<Place> found = findWay(w.at, t, List.of());
        w.row = found == null ? new ArrayList<>() : new ArrayList<>(found.subList(1, found.size()));
        return found == null ? -1 : w.row.size();
    }

    int tick(int n) {
        if (n < 1 || n > 10) return -2;
        for (int i = 0; i < n; i++) {
            ticks++;
            for (Walker w : walkers) {
                if (!w.row.isEmpty()) turn(w);
            }
        }
        return (int) walkers.stream().filter(w -> !w.row.isEmpty()).count();
    }

    int about(int walker, int what) {
        if (walker < 0 || walker >= walkers.size() || what < 0 || what > 8) return -2;
        Walker w = walkers.get(walker);
        int[] facts = {w.at.x(), w.at.y(), w.at.level(), w.row.size(), w.waits, w.stuck ? 1 : 0, w.steps, w.length, w.looks};
        return facts[what];
    }

    int count(int what) {
        if (what < 0 || what > 7) return -2;
        int down = 0;
        for (Rect b : boxes) down += b == null ? 0 : 1;
        int closed = (int) shut.stream().filter(s -> s).count();
        int[] counts = {rooms.size(), down, doors.size(), closed, ledges.size(), ladders.size(), walkers.size(), ticks};
        return counts[what];
    }

    long digest() {
        long h = 89;
        for (int i = 0; i < 8; i++) h = 31 * h + count(i);
        for (int w = 0; w < walkers.size(); w++) {
            for (int i = 0; i < 9; i++) h = 31 * h + about(w, i);
        }
        return h;
    }

    private void turn(Walker w) {
        Place next = w.row.get(0);
        boolean taken = false;
        for (Walker o : walkers) taken |= o != w && o.at.equals(next);
        if (!taken && isStep(w.at, next)) {
            w.length += (int) stepLength(w.at, next);
            w.steps++;
            w.at = next;
            w.row.remove(0);
            w.waits = 0;
            return;
        }
        w.waits++;
        if (w.waits < 3) return;
        w.waits = 0;
        w.looks++;
        Place last = w.row.get(w.row.size() - 1);
        List<Place> others = new ArrayList<>();
        for (Walker o : walkers) {
            if (o != w && !o.at.equals(last)) others.add(o.at);
        }
        List<Place> found = findWay(w.at, last, others);
        w.stuck = found == null;
        w.row = found == null ? new ArrayList<>() : new ArrayList<>(found.subList(1, found.size()));
    }

    private static boolean bad(int level, int x, int y) {
        return level < 0 || level > 2 || x < 0 || x > 100 || y < 0 || y > 100;
    }

    private static boolean badLine(int level, int x0, int y0, int x1, int y1) {
        if (bad(level, x0, y0) || bad(level, x1, y1)) return true;
        boolean sameX = x0 == x1;
        boolean sameY = y0 == y1;
        return sameX && sameY || !sameX && !sameY;
    }

    /** Whether the point x/d, y/d is beyond no edge and on none. */
    private static boolean inside(Rect r, long x, long y, long d) {
        return x > r.x0() * d && x < r.x1() * d && y > r.y0() * d && y < r.y1() * d;
    }

    private static boolean within(Rect r, long x, long y, long d) {
        return x >= r.x0() * d && x <= r.x1() * d && y >= r.y0() * d && y <= r.y1() * d;
    }

    private boolean onGround(Place p) {
        return onGround(p.level(), p.x(), p.y(), 1);
    }

    private boolean onGround(int level, long x, long y, long d) {
        for (Rect b : boxes) {
            if (b != null && b.level() == level && inside(b, x, y, d)) return false;
        }
        for (Rect r : rooms) {
            if (r.level() == level && within(r, x, y, d)) return true;
        }
        return false;
    }

    private static List<Place> corners(Rect r) {
        return List.of(new Place(r.level(), r.x0(), r.y0()), new Place(r.level(), r.x1(), r.y0()),
            new Place(r.level(), r.x1(), r.y1()), new Place(r.level(), r.x0(), r.y1()));
    }

    /** Looks at every point where an edge's line is met, and at one between each two of these. */
    private boolean legOnGround(Place a, Place b) {
        TreeSet<Fraction> marks = new TreeSet<>();
        marks.add(new Fraction(0, 1));
        marks.add(new Fraction(1, 1));
        List<Rect> all = new ArrayList<>(rooms);
        for (Rect r : boxes) if (r != null) all.add(r);
        long dx = b.x() - a.x();
        long dy = b.y() - a.y();
        for (Rect r : all) {
            if (dx != 0) {
                addMark(marks, Fraction.of(r.x0() - a.x(), dx));
                addMark(marks, Fraction.of(r.x1() - a.x(), dx));
            }
            if (dy != 0) {
                addMark(marks, Fraction.of(r.y0() - a.y(), dy));
                addMark(marks, Fraction.of(r.y1() - a.y(), dy));
            }
        }
        Fraction before = null;
        for (Fraction f : marks) {
            if (!pointOnGround(a, dx, dy, f)) return false;
            if (before != null && !pointOnGround(a, dx, dy, before.middle(f))) return false;
            before = f;
        }
        return true;
    }

    private static void addMark(TreeSet<Fraction> marks, Fraction f) {
        if (f.n() >= 0 && f.n() <= f.d()) marks.add(f);
    }

    private boolean pointOnGround(Place a, long dx, long dy, Fraction f) {
        return onGround(a.level(), a.x() * f.d() + dx * f.n(), a.y() * f.d() + dy * f.n(), f.d());
    }

    private static long turnOf(long ax, long ay, long bx, long by, long cx, long cy) {
        return Long.signum((bx - ax) * (cy - ay) - (by - ay) * (cx - ax));
    }

    private static boolean between(long a, long b, long c) {
        return Math.min(a, b) <= c && c <= Math.max(a, b);
    }

    /** Whether two closed pieces of lines have a point in common, by turns. */
    private static boolean touches(Line d, Place a, Place b) {
        if (d.level() != a.level()) return false;
        boolean near = Math.max(Math.min(d.x0(), d.x1()), Math.min(a.x(), b.x())) <= Math.min(Math.max(d.x0(), d.x1()), Math.max(a.x(), b.x()))
            && Math.max(Math.min(d.y0(), d.y1()), Math.min(a.y(), b.y())) <= Math.min(Math.max(d.y0(), d.y1()), Math.max(a.y(), b.y()));
        long p = turnOf(d.x0(), d.y0(), d.x1(), d.y1(), a.x(), a.y()) * turnOf(d.x0(), d.y0(), d.x1(), d.y1(), b.x(), b.y());
        long q = turnOf(a.x(), a.y(), b.x(), b.y(), d.x0(), d.y0()) * turnOf(a.x(), a.y(), b.x(), b.y(), d.x1(), d.y1());
        return near && p <= 0 && q <= 0;
    }

    private static boolean crossesWrongly(Line l, Place a, Place b) {
        if (l.level() != a.level()) return false;
        boolean alongY = l.x0() == l.x1();
        long c = alongY ? l.x0() : l.y0();
        long au = alongY ? a.x() : a.y();
        long av = alongY ? a.y() : a.x();
        long bu = alongY ? b.x() : b.y();
        long bv = alongY ? b.y() : b.x();
        if (!(au < c && c < bu) && !(bu < c && c < au)) return false;
        // times du, so that the point's other coordinate is whole; both ends of the ledge likewise
        long du = bu - au;
        long v = av * du + (bv - av) * (c - au);
        long end0 = (alongY ? l.y0() : l.x0()) * du;
        long end1 = (alongY ? l.y1() : l.x1()) * du;
        return between(end0, end1, v) && (bu > au) != l.rising();
    }

    private int look(Place a, Place b) {
        if (!legOnGround(a, b)) return 0;
        for (int i = 0; i < doors.size(); i++) {
            if (shut.get(i) && touches(doors.get(i), a, b)) return -10;
        }
        for (Line l : ledges) {
            if (crossesWrongly(l, a, b)) return -11;
        }
        return 1;
    }

    private boolean isStep(Place a, Place b) {
        if (a.level() == b.level()) return look(a, b) == 1;
        return stepLength(a, b) >= 0 && onGround(b);
    }

    private long stepLength(Place a, Place b) {
        if (a.level() == b.level()) {
            long dx = b.x() - a.x();
            long dy = b.y() - a.y();
            return BigInteger.valueOf(1000000 * (dx * dx + dy * dy)).sqrt().longValueExact();
        }
        long least = -1;
        for (Ladder l : ladders) {
            boolean joins = l.a().equals(a) && l.b().equals(b) || l.a().equals(b) && l.b().equals(a);
            if (joins && (least < 0 || l.cost() < least)) least = l.cost();
        }
        return least;
    }

    /** Nodes keep their numbers; those that are left out are null. */
    private List<Place> findWay(Place s, Place t, List<Place> leftOut) {
        List<Place> nodes = new ArrayList<>();
        nodes.add(s);
        nodes.add(t);
        for (Rect r : rooms) nodes.addAll(corners(r));
        for (Rect b : boxes) if (b != null) nodes.addAll(corners(b));
        for (Ladder l : ladders) {
            nodes.add(l.a());
            nodes.add(l.b());
        }
        int n = nodes.size();
        for (int i = 0; i < n; i++) {
            if (!onGround(nodes.get(i)) || leftOut.contains(nodes.get(i))) nodes.set(i, null);
        }
        long[] length = new long[n];
        int[] from = new int[n];
        boolean[] done = new boolean[n];
        java.util.Arrays.fill(length, -1);
        length[0] = 0;
        while (true) {
            int u = -1;
            for (int i = 0; i < n; i++) {
                if (!done[i] && length[i] >= 0 && (u < 0 || length[i] < length[u])) u = i;
            }
            if (u < 0) break;
            done[u] = true;
            for (int v = 0; v < n; v++) {
                if (done[v] || nodes.get(v) == null || !isStep(nodes.get(u), nodes.get(v))) continue;
                long by = length[u] + stepLength(nodes.get(u), nodes.get(v));
                if (length[v] < 0 || length[v] > by) {
                    length[v] = by;
                    from[v] = u;
                }
            }
        }
        if (length[1] < 0) return null;
        foundLength = (int) length[1];
        List<Place> row = new ArrayList<>();
        for (int v = 1; v != 0; v = from[v]) row.add(0, nodes.get(v));
        row.add(0, s);
        return row;
    }
}
