import java.util.Random;

/** Runs of 512 calls drawn from fixed seeds on the program and on SlowKeeper: all answers must be alike. */
public final class ModelTest {
    private static final int CALLS = 512;
    /** A way with its bends, and a digest behind it. */
    private static final int MOST_AT_ONCE = 26;
    private static final Due DUE = new Due();

    private final GroundKeeper fast = new GroundKeeper();
    private final SlowKeeper slow = new SlowKeeper();
    private final Random random;
    private final String run;
    private final int wide;
    private final int levels;
    private int calls;

    private ModelTest(int seed) {
        random = new Random(seed);
        run = "seed " + seed + ": ";
        wide = new int[] {4, 6, 8, 12, 20, 100}[seed % 6];
        levels = 1 + seed / 6 % 3;
    }

    public static void main(String[] args) {
        int seeds = args.length > 0 ? Integer.parseInt(args[0]) : 120;
        for (int seed = 0; seed < seeds; seed++) {
            ModelTest test = new ModelTest(seed);
            for (int i = 0; test.calls + MOST_AT_ONCE <= CALLS; i++) {
                test.call(i < 30 ? test.random.nextInt(7) : test.random.nextInt(40));
            }
            while (test.calls < CALLS) {
                test.same("digest", test.fast.digest(), test.slow.digest());
            }
        }
        DUE.end();
    }

    private void same(String call, long fastAnswer, long slowAnswer) {
        calls++;
        DUE.is(run + call, fastAnswer, slowAnswer);
    }

    private int at() {
        return random.nextInt(200) == 0 ? new int[] {-1, 101, Integer.MAX_VALUE, Integer.MIN_VALUE}[random.nextInt(4)] : random.nextInt(wide + 1);
    }

    private int level() {
        return random.nextInt(200) == 0 ? new int[] {-1, 3, Integer.MAX_VALUE}[random.nextInt(3)] : random.nextInt(levels);
    }

    private int number(int below) {
        return random.nextInt(below + 2) - 1;
    }

    private void call(int kind) {
        int l = level();
        int a = at();
        int b = at();
        int c = at();
        int d = at();
        int o = level();
        boolean yes = random.nextBoolean();
        String five = "(" + l + ", " + a + ", " + b + ", " + c + ", " + d + ")";
        switch (kind) {
            case 0, 1 -> rectangle(l, Math.min(a, c), Math.min(b, d), Math.max(a, c), Math.max(b, d));
            case 2 -> box(l, Math.min(a, c), Math.min(b, d), Math.max(a, c), Math.max(b, d));
            case 3 -> ladder(l, a, b, o, c, d);
            case 4 -> line(l, a, b, c, d, yes);
            case 5 -> same("walker" + five, fast.walker(l, a, b), slow.walker(l, a, b));
            case 6, 7 -> {
                int n = number(6);
                same("shut(" + n + ", " + yes, fast.shut(n, yes), slow.shut(n, yes));
            }
            case 8 -> {
                int n = number(8);
                same("take(" + n, fast.take(n), slow.take(n));
            }
            case 9, 10 -> same("may" + five, fast.may(l, a, b), slow.may(l, a, b));
            case 11, 12, 13, 14 -> same("see" + five, fast.see(l, a, b, c, d), slow.see(l, a, b, c, d));
            case 15, 16, 17 -> way(l, a, b, o, c, d);
            case 18 -> same("reach" + five, fast.reach(l, a, b), slow.reach(l, a, b));
            case 19, 20, 21, 22, 23, 24, 25 -> {
                int n = number(6);
                same("go " + n + five, fast.go(n, l, a, b), slow.go(n, l, a, b));
            }
            case 26, 27, 28, 29, 30, 31 -> {
                int n = random.nextInt(20) == 0 ? random.nextInt(14) - 1 : 1 + random.nextInt(3);
                same("tick(" + n, fast.tick(n), slow.tick(n));
            }
            case 32 -> {
                int n = number(12);
                same("bend " + n + " " + o, fast.bend(n, o), slow.bend(n, o));
            }
            case 33 -> {
                int n = number(6);
                int what = number(9);
                same("about " + n + " " + what, fast.about(n, what), slow.about(n, what));
            }
            case 34 -> {
                int what = number(8);
                same("count " + what, fast.count(what), slow.count(what));
            }
            case 35 -> box(l, Math.min(a, c), Math.min(b, d), Math.max(a, c), Math.max(b, d));
            default -> same("a call in between", fast.count(0), slow.count(0));
        }
        if (random.nextInt(3) == 0) {
            same("digest", fast.digest(), slow.digest());
        }
    }

    private void rectangle(int l, int x0, int y0, int x1, int y1) {
        same("room", fast.room(l, x0, y0, x1, y1), slow.room(l, x0, y0, x1, y1));
    }

    private void box(int l, int x0, int y0, int x1, int y1) {
        same("box", fast.box(l, x0, y0, x1, y1), slow.box(l, x0, y0, x1, y1));
    }

    private void ladder(int l, int x, int y, int o, int ox, int oy) {
        int cost = new int[] {0, 1, 700, 5000, 1000000, 1000001, -1}[random.nextInt(7)];
        same("ladder", fast.ladder(l, x, y, o, ox, oy, cost), slow.ladder(l, x, y, o, ox, oy, cost));
    }

    private void line(int l, int x0, int y0, int x1, int y1, boolean rising) {
        int ex = random.nextInt(10) == 0 ? x1 : random.nextBoolean() ? x0 : x1;
        int ey = random.nextInt(10) == 0 ? y1 : ex == x0 ? y1 : y0;
        if (random.nextBoolean()) {
            same("door", fast.door(l, x0, y0, ex, ey), slow.door(l, x0, y0, ex, ey));
        } else {
            same("ledge", fast.ledge(l, x0, y0, ex, ey, rising), slow.ledge(l, x0, y0, ex, ey, rising));
        }
    }

    private void way(int l, int x, int y, int o, int ox, int oy) {
        same("way", fast.way(l, x, y, o, ox, oy), slow.way(l, x, y, o, ox, oy));
        for (int i = 0; i < 8; i++) {
            for (int what = 0; what < 3; what++) {
                same("bend(" + i + ", " + what, fast.bend(i, what), slow.bend(i, what));
            }
        }
    }
}
