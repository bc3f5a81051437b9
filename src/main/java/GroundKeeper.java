/**
 * Walkable ground on three levels: rooms, boxes, doors, ledges and ladders; exact sight along
 * straight legs, shortest ways by corners, and walkers that go along them and wait for one another.
 */
public final class GroundKeeper {
    public static final int NONE = -1, BAD = -2, NO = -3, FULL = -4;

    private static final int LEVELS = 3;
    private static final int FARTHEST = 100;
    private static final int DEAREST = 1000000;
    private static final int MOST_ROOMS = 12;
    private static final int MOST_BOXES = 8;
    private static final int MOST_DOORS = 6;
    private static final int MOST_LEDGES = 6;
    private static final int MOST_LADDERS = 6;
    private static final int MOST_WALKERS = 6;
    private static final int MOST_TICKS = 10;
    private static final int CORNERS = 4;
    private static final int MOST_NODES =
        2 + CORNERS * (MOST_ROOMS + MOST_BOXES) + 2 * MOST_LADDERS;
    private static final int PATIENCE = 3;
    private static final int WALKER_FACTS = 9;
    private static final int COUNTS = 8;

    private static final int OPEN = 1;
    private static final int OFF_GROUND = 0;
    private static final int BY_DOOR = -10;
    private static final int BY_LEDGE = -11;

    private final Ground ground;
    private final Finder finder;
    private final Row latestWay;
    private final Walker[] walkers;
    private int walkerSize;
    private int ticks;

    public GroundKeeper() {
        Ground empty = new Ground();
        ground = empty;
        finder = new Finder(empty);
        latestWay = new Row();
        walkers = new Walker[MOST_WALKERS];
        for (int i = 0; i < MOST_WALKERS; i++) {
            walkers[i] = new Walker();
        }
    }

    public int room(int level, int x0, int y0, int x1, int y1) {
        if (!isRectangle(level, x0, y0, x1, y1)) {
            return BAD;
        }
        return ground.rooms.add(level, x0, y0, x1, y1, true);
    }

    public int box(int level, int x0, int y0, int x1, int y1) {
        if (!isRectangle(level, x0, y0, x1, y1)) {
            return BAD;
        }
        for (int i = 0; i < walkerSize; i++) {
            int place = walkers[i].place;
            boolean within = x0 < xOf(place) && xOf(place) < x1 && y0 < yOf(place) && yOf(place) < y1;
            if (within && levelOf(place) == level) {
                return NO;
            }
        }
        return ground.boxes.putDown(level, x0, y0, x1, y1);
    }

    public int take(int box) {
        if (box < 0 || box >= MOST_BOXES) {
            return BAD;
        }
        Area taken = ground.boxes.all[box];
        if (!taken.on) {
            return NO;
        }
        taken.on = false;
        return 1;
    }

    public int door(int level, int x0, int y0, int x1, int y1) {
        if (!isStraight(level, x0, y0, x1, y1)) {
            return BAD;
        }
        return ground.doors.add(level, x0, y0, x1, y1, false);
    }

    public int shut(int door, boolean shut) {
        if (door < 0 || door >= ground.doors.size) {
            return BAD;
        }
        Area changed = ground.doors.all[door];
        if (changed.on == shut || (shut && anyStandsOn(changed))) {
            return NO;
        }
        changed.on = shut;
        return 1;
    }

    public int ledge(int level, int x0, int y0, int x1, int y1, boolean rising) {
        if (!isStraight(level, x0, y0, x1, y1)) {
            return BAD;
        }
        return ground.ledges.add(level, x0, y0, x1, y1, rising);
    }

    public int ladder(int level, int x, int y, int other, int ox, int oy, int cost) {
        if (!isPlace(level, x, y) || !isPlace(other, ox, oy) || level == other) {
            return BAD;
        }
        if (cost < 0 || cost > DEAREST) {
            return BAD;
        }
        return ground.addLadder(placeAt(level, x, y), placeAt(other, ox, oy), cost);
    }

    public int may(int level, int x, int y) {
        if (!isPlace(level, x, y)) {
            return BAD;
        }
        return ground.isGround(placeAt(level, x, y)) ? 1 : 0;
    }

    public int see(int level, int x, int y, int ox, int oy) {
        if (!isPlace(level, x, y) || !isPlace(level, ox, oy)) {
            return BAD;
        }
        return ground.judge(placeAt(level, x, y), placeAt(level, ox, oy));
    }

    public int way(int level, int x, int y, int other, int ox, int oy) {
        if (!isPlace(level, x, y) || !isPlace(other, ox, oy)) {
            return BAD;
        }
        int from = placeAt(level, x, y);
        int to = placeAt(other, ox, oy);
        if (!ground.isGround(from) || !ground.isGround(to)) {
            return NO;
        }
        finder.avoidNothing();
        finder.explore(from, to, false);
        if (finder.foundLength() != NONE) {
            finder.writeWay(latestWay);
        }
        return finder.foundLength();
    }

    public int bend(int i, int what) {
        if (i < 0 || what < 0 || what > 2) {
            return BAD;
        }
        if (i >= latestWay.size) {
            return NONE;
        }
        return coordinate(latestWay.places[i], what);
    }

    public int reach(int level, int x, int y) {
        if (!isPlace(level, x, y)) {
            return BAD;
        }
        int from = placeAt(level, x, y);
        if (!ground.isGround(from)) {
            return NO;
        }
        finder.avoidNothing();
        finder.explore(from, from, true);
        return finder.countRoomCorners();
    }

    public int walker(int level, int x, int y) {
        if (!isPlace(level, x, y)) {
            return BAD;
        }
        int place = placeAt(level, x, y);
        if (!ground.isGround(place) || ground.isOnShutDoor(place) || isTaken(place, NONE)) {
            return NO;
        }
        if (walkerSize >= MOST_WALKERS) {
            return FULL;
        }
        walkers[walkerSize].place = place;
        walkerSize++;
        return walkerSize - 1;
    }

    public int go(int walker, int level, int x, int y) {
        if (walker < 0 || walker >= walkerSize || !isPlace(level, x, y)) {
            return BAD;
        }
        int to = placeAt(level, x, y);
        if (!ground.isGround(to)) {
            return NO;
        }
        Walker told = walkers[walker];
        told.stuck = false;
        finder.avoidNothing();
        finder.explore(told.place, to, false);
        if (finder.foundLength() == NONE) {
            told.dropRow();
            return NONE;
        }
        finder.writeWay(told.row);
        told.beginRow();
        return told.ahead();
    }

    public int tick(int n) {
        if (n < 1 || n > MOST_TICKS) {
            return BAD;
        }
        for (int i = 0; i < n; i++) {
            for (int k = 0; k < walkerSize; k++) {
                takeTurn(k);
            }
        }
        ticks += n;
        int going = 0;
        for (int k = 0; k < walkerSize; k++) {
            if (walkers[k].ahead() > 0) {
                going++;
            }
        }
        return going;
    }

    public int about(int walker, int what) {
        if (walker < 0 || walker >= walkerSize || what < 0 || what >= WALKER_FACTS) {
            return BAD;
        }
        Walker asked = walkers[walker];
        switch (what) {
            case 3: return asked.ahead();
            case 4: return asked.waits;
            case 5: return asked.stuck ? 1 : 0;
            case 6: return asked.steps;
            case 7: return asked.length;
            case 8: return asked.looks;
            default: return coordinate(asked.place, what);
        }
    }

    public int count(int what) {
        switch (what) {
            case 0: return ground.rooms.size;
            case 1: return ground.boxes.countOn();
            case 2: return ground.doors.size;
            case 3: return ground.doors.countOn();
            case 4: return ground.ledges.size;
            case 5: return ground.ladderSize;
            case 6: return walkerSize;
            case 7: return ticks;
            default: return BAD;
        }
    }

    public long digest() {
        long h = 89;
        for (int what = 0; what < COUNTS; what++) {
            h = 31 * h + count(what);
        }
        for (int i = 0; i < walkerSize; i++) {
            for (int what = 0; what < WALKER_FACTS; what++) {
                h = 31 * h + about(i, what);
            }
        }
        return h;
    }

    private void takeTurn(int number) {
        Walker walker = walkers[number];
        if (walker.ahead() == 0) {
            return;
        }
        int next = walker.nextPlace();
        if (ground.judge(walker.place, next) == OPEN && !isTaken(next, number)) {
            walker.stepOn(ground.stepLength(walker.place, next));
            return;
        }
        walker.waits++;
        if (walker.waits < PATIENCE) {
            return;
        }
        walker.waits = 0;
        walker.looks++;
        avoidOthers(number);
        finder.explore(walker.place, walker.lastPlace(), false);
        if (finder.foundLength() == NONE) {
            walker.dropRow();
            walker.stuck = true;
        } else {
            finder.writeWay(walker.row);
            walker.beginRow();
        }
    }

    private void avoidOthers(int number) {
        finder.avoidNothing();
        for (int i = 0; i < walkerSize; i++) {
            if (i != number && walkers[i].place != walkers[number].lastPlace()) {
                finder.avoid(walkers[i].place);
            }
        }
    }

    /** Whether a walker other than the one of that number stands on a place. */
    private boolean isTaken(int place, int number) {
        for (int i = 0; i < walkerSize; i++) {
            if (i != number && walkers[i].place == place) {
                return true;
            }
        }
        return false;
    }

    private boolean anyStandsOn(Area area) {
        for (int i = 0; i < walkerSize; i++) {
            int place = walkers[i].place;
            if (area.holds(levelOf(place), xOf(place), yOf(place))) {
                return true;
            }
        }
        return false;
    }

    private static boolean isPlace(int level, int x, int y) {
        return level >= 0 && level < LEVELS && x >= 0 && x <= FARTHEST && y >= 0 && y <= FARTHEST;
    }

    private static boolean isRectangle(int level, int x0, int y0, int x1, int y1) {
        return isPlace(level, x0, y0) && isPlace(level, x1, y1) && x0 < x1 && y0 < y1;
    }

    private static boolean isStraight(int level, int x0, int y0, int x1, int y1) {
        return isPlace(level, x0, y0) && isPlace(level, x1, y1) && (x0 == x1) != (y0 == y1);
    }

    /** A place as one number, so that places are kept in plain rows and compared at once. */
    private static int placeAt(int level, int x, int y) {
        return level << 14 | y << 7 | x;
    }

    private static int levelOf(int place) {
        return place >> 14;
    }

    private static int xOf(int place) {
        return place & 127;
    }

    private static int yOf(int place) {
        return place >> 7 & 127;
    }

    private static int coordinate(int place, int what) {
        if (what == 0) {
            return xOf(place);
        }
        return what == 1 ? yOf(place) : levelOf(place);
    }

    /** The greatest whole number the square of which is no more; it is below 2^18 for every leg. */
    private static int rootOf(long square) {
        int root = 0;
        for (int i = 17; i >= 0; i--) {
            long tried = root + (1 << i);
            if (tried * tried <= square) {
                root = (int) tried;
            }
        }
        return root;
    }

    /** A rectangle of a level, edges included; doors and ledges are such without breadth. */
    private static final class Area {
        int level;
        int x0;
        int y0;
        int x1;
        int y1;
        /** Of a room: it is there; of a box: it is down; of a door: shut; of a ledge: rising. */
        boolean on;

        void lay(int newLevel, int fromX, int fromY, int toX, int toY) {
            level = newLevel;
            x0 = Math.min(fromX, toX);
            y0 = Math.min(fromY, toY);
            x1 = Math.max(fromX, toX);
            y1 = Math.max(fromY, toY);
        }

        boolean holds(int ofLevel, int x, int y) {
            return level == ofLevel && x0 <= x && x <= x1 && y0 <= y && y <= y1;
        }

        boolean encloses(int ofLevel, int x, int y) {
            return level == ofLevel && x0 < x && x < x1 && y0 < y && y < y1;
        }

        /** Corners 0 to 3 in the order of the document's nodes. */
        int corner(int i) {
            return placeAt(level, i == 1 || i == 2 ? x1 : x0, i >= 2 ? y1 : y0);
        }
    }

    /** Areas of one kind by their numbers. */
    private static final class Areas {
        final Area[] all;
        int size;

        Areas(int most) {
            all = new Area[most < 0 ? 0 : most];
            for (int i = 0; i < all.length; i++) {
                all[i] = new Area();
            }
        }

        int add(int level, int x0, int y0, int x1, int y1, boolean on) {
            if (size >= all.length) {
                return FULL;
            }
            all[size].lay(level, x0, y0, x1, y1);
            all[size].on = on;
            size++;
            return size - 1;
        }

        /** Takes the least number that is not on, as boxes do. */
        int putDown(int level, int x0, int y0, int x1, int y1) {
            for (int i = 0; i < all.length; i++) {
                if (!all[i].on) {
                    all[i].lay(level, x0, y0, x1, y1);
                    all[i].on = true;
                    return i;
                }
            }
            return FULL;
        }

        int countOn() {
            int n = 0;
            for (int i = 0; i < all.length; i++) {
                if (all[i].on) {
                    n++;
                }
            }
            return n;
        }
    }

    /**
     * A straight leg. How far along it a point lies is told in parts of the whole, which is chosen
     * so that every whole x and every whole y is met at a whole part: so all is exact.
     */
    private static final class Leg {
        int level;
        int ax;
        int ay;
        int dx;
        int dy;
        int whole;
        int partsPerX;
        int partsPerY;
        /** What meets() found: the parts from lo to hi are in the area. */
        int lo;
        int hi;

        void lay(int from, int to) {
            level = levelOf(from);
            ax = xOf(from);
            ay = yOf(from);
            dx = xOf(to) - ax;
            dy = yOf(to) - ay;
            int breadth = Math.max(1, Math.abs(dx));
            int height = Math.max(1, Math.abs(dy));
            whole = breadth * height;
            partsPerX = dx < 0 ? -height : height;
            partsPerY = dy < 0 ? -breadth : breadth;
        }

        /** Whether a point of the leg is in the area or on its edge. */
        boolean meets(Area area) {
            if (level != area.level) {
                return false;
            }
            if (dx == 0 && (ax < area.x0 || ax > area.x1)) {
                return false;
            }
            if (dy == 0 && (ay < area.y0 || ay > area.y1)) {
                return false;
            }
            lo = 0;
            hi = whole;
            if (dx != 0) {
                int in = ((dx > 0 ? area.x0 : area.x1) - ax) * partsPerX;
                int out = ((dx > 0 ? area.x1 : area.x0) - ax) * partsPerX;
                lo = in > lo ? in : lo;
                hi = out < hi ? out : hi;
            }
            if (dy != 0) {
                int in = ((dy > 0 ? area.y0 : area.y1) - ay) * partsPerY;
                int out = ((dy > 0 ? area.y1 : area.y0) - ay) * partsPerY;
                lo = in > lo ? in : lo;
                hi = out < hi ? out : hi;
            }
            return lo <= hi;
        }

        /** Of an area that the leg meets: whether it has a point there that is on no edge. */
        boolean runsInside(Area met) {
            boolean insideX = dx != 0 || (met.x0 < ax && ax < met.x1);
            boolean insideY = dy != 0 || (met.y0 < ay && ay < met.y1);
            return lo < hi && insideX && insideY;
        }

        /** Whether the leg goes from one side of a ledge's line to the other one, the wrong way. */
        boolean goesAgainst(Area ledge) {
            boolean alongY = ledge.x0 == ledge.x1;
            int begin = alongY ? ax : ay;
            int end = begin + (alongY ? dx : dy);
            int line = alongY ? ledge.x0 : ledge.y0;
            return ledge.on ? end < line && line < begin : begin < line && line < end;
        }
    }

    /** What there is to walk on, and what stands in the way. */
    private static final class Ground {
        final Areas rooms;
        final Areas boxes;
        final Areas doors;
        final Areas ledges;
        final int[] ladderFrom;
        final int[] ladderTo;
        final int[] ladderCost;
        int ladderSize;
        final Leg leg;

        Ground() {
            rooms = new Areas(MOST_ROOMS);
            boxes = new Areas(MOST_BOXES);
            doors = new Areas(MOST_DOORS);
            ledges = new Areas(MOST_LEDGES);
            ladderFrom = new int[MOST_LADDERS];
            ladderTo = new int[MOST_LADDERS];
            ladderCost = new int[MOST_LADDERS];
            leg = new Leg();
        }

        int addLadder(int from, int to, int cost) {
            if (ladderSize >= MOST_LADDERS) {
                return FULL;
            }
            ladderFrom[ladderSize] = from;
            ladderTo[ladderSize] = to;
            ladderCost[ladderSize] = cost;
            ladderSize++;
            return ladderSize - 1;
        }

        boolean isGround(int place) {
            int level = levelOf(place);
            int x = xOf(place);
            int y = yOf(place);
            for (int i = 0; i < MOST_BOXES; i++) {
                if (boxes.all[i].on && boxes.all[i].encloses(level, x, y)) {
                    return false;
                }
            }
            for (int i = 0; i < rooms.size; i++) {
                if (rooms.all[i].holds(level, x, y)) {
                    return true;
                }
            }
            return false;
        }

        boolean isOnShutDoor(int place) {
            for (int i = 0; i < doors.size; i++) {
                Area door = doors.all[i];
                if (door.on && door.holds(levelOf(place), xOf(place), yOf(place))) {
                    return true;
                }
            }
            return false;
        }

        /** The length of the step, open or not; NONE if the levels differ and no ladder joins them. */
        int stepLength(int from, int to) {
            if (levelOf(from) != levelOf(to)) {
                return leastLadderCost(from, to);
            }
            long dx = xOf(to) - xOf(from);
            long dy = yOf(to) - yOf(from);
            return rootOf(1000000L * (dx * dx + dy * dy));
        }

        private int leastLadderCost(int from, int to) {
            int least = NONE;
            for (int i = 0; i < ladderSize; i++) {
                boolean joins = (ladderFrom[i] == from && ladderTo[i] == to)
                    || (ladderFrom[i] == to && ladderTo[i] == from);
                if (joins && (least == NONE || ladderCost[i] < least)) {
                    least = ladderCost[i];
                }
            }
            return least;
        }

        /** Whether a step is open, and if not, what is the first thing against it. */
        int judge(int from, int to) {
            if (levelOf(from) != levelOf(to)) {
                return leastLadderCost(from, to) != NONE && isGround(to) ? OPEN : OFF_GROUND;
            }
            leg.lay(from, to);
            if (!legIsInRooms() || legRunsInBox()) {
                return OFF_GROUND;
            }
            if (legMeetsShutDoor()) {
                return BY_DOOR;
            }
            return legCrossesLedge() ? BY_LEDGE : OPEN;
        }

        /** Goes along the leg from room to room; each round comes farther, or there is a gap. */
        private boolean legIsInRooms() {
            int covered = 0;
            for (int round = 0; round < rooms.size; round++) {
                int farther = covered;
                for (int i = 0; i < rooms.size; i++) {
                    if (leg.meets(rooms.all[i]) && leg.lo <= covered && leg.hi > farther) {
                        farther = leg.hi;
                    }
                }
                if (farther >= leg.whole) {
                    return true;
                }
                if (farther == covered) {
                    return false;
                }
                covered = farther;
            }
            return false;
        }

        private boolean legRunsInBox() {
            for (int i = 0; i < MOST_BOXES; i++) {
                Area box = boxes.all[i];
                if (box.on && leg.meets(box) && leg.runsInside(box)) {
                    return true;
                }
            }
            return false;
        }

        private boolean legMeetsShutDoor() {
            for (int i = 0; i < doors.size; i++) {
                if (doors.all[i].on && leg.meets(doors.all[i])) {
                    return true;
                }
            }
            return false;
        }

        private boolean legCrossesLedge() {
            for (int i = 0; i < ledges.size; i++) {
                if (leg.goesAgainst(ledges.all[i]) && leg.meets(ledges.all[i])) {
                    return true;
                }
            }
            return false;
        }
    }

    /** Looks for ways: node 0 is where one begins, node 1 where it leads. */
    private static final class Finder {
        static final int GOAL = 1;

        final Ground ground;
        final int[] places;
        final int[] lengths;
        final int[] cameFrom;
        final boolean[] settled;
        int size;
        int roomCornersEnd;
        final int[] avoided;
        int avoidedSize;

        Finder(Ground itsGround) {
            ground = itsGround;
            places = new int[MOST_NODES];
            lengths = new int[MOST_NODES];
            cameFrom = new int[MOST_NODES];
            settled = new boolean[MOST_NODES];
            avoided = new int[MOST_WALKERS];
        }

        void avoidNothing() {
            avoidedSize = 0;
        }

        void avoid(int place) {
            if (avoidedSize < MOST_WALKERS) {
                avoided[avoidedSize] = place;
                avoidedSize++;
            }
        }

        /** Settles nodes till the goal is one of them, or all that can be. */
        void explore(int from, int to, boolean beyondGoal) {
            gather(from, to);
            lengths[0] = 0;
            for (int round = 0; round < size; round++) {
                int node = nearest();
                if (node == NONE || (node == GOAL && !beyondGoal)) {
                    return;
                }
                settled[node] = true;
                spreadFrom(node);
            }
        }

        /** The length of the way to the goal, or NONE. */
        int foundLength() {
            return lengths[GOAL];
        }

        int countRoomCorners() {
            int n = 0;
            for (int i = GOAL + 1; i < roomCornersEnd; i++) {
                if (lengths[i] != NONE) {
                    n++;
                }
            }
            return n;
        }

        /** Writes the places of a way that was found, its beginning too. */
        void writeWay(Row row) {
            int n = 1;
            for (int node = GOAL; node != 0 && n < MOST_NODES; node = cameFrom[node]) {
                n++;
            }
            row.size = n;
            int node = GOAL;
            for (int i = n - 1; i >= 0; i--) {
                row.places[i] = places[node];
                node = cameFrom[node];
            }
        }

        /** Nodes that are left out need no number: the order of the others stays the same. */
        private void gather(int from, int to) {
            size = 0;
            addNode(from);
            // A walker's goal may be off the ground by now: then no step to it is open.
            addNode(to);
            for (int i = 0; i < ground.rooms.size * CORNERS; i++) {
                addIfFree(ground.rooms.all[i / CORNERS].corner(i % CORNERS));
            }
            roomCornersEnd = size;
            for (int i = 0; i < MOST_BOXES * CORNERS; i++) {
                Area box = ground.boxes.all[i / CORNERS];
                if (box.on) {
                    addIfFree(box.corner(i % CORNERS));
                }
            }
            for (int i = 0; i < ground.ladderSize; i++) {
                addIfFree(ground.ladderFrom[i]);
                addIfFree(ground.ladderTo[i]);
            }
        }

        private void addIfFree(int place) {
            for (int i = 0; i < avoidedSize; i++) {
                if (avoided[i] == place) {
                    return;
                }
            }
            if (ground.isGround(place)) {
                addNode(place);
            }
        }

        private void addNode(int place) {
            if (size < MOST_NODES) {
                places[size] = place;
                lengths[size] = NONE;
                cameFrom[size] = 0;
                settled[size] = false;
                size++;
            }
        }

        private int nearest() {
            int best = NONE;
            for (int i = 0; i < size; i++) {
                boolean waits = !settled[i] && lengths[i] != NONE;
                if (waits && (best == NONE || lengths[i] < lengths[best])) {
                    best = i;
                }
            }
            return best;
        }

        /** Asks for the length first: most steps are no gain, and to judge them is dear. */
        private void spreadFrom(int node) {
            for (int i = 0; i < size; i++) {
                if (settled[i]) {
                    continue;
                }
                int step = ground.stepLength(places[node], places[i]);
                if (step == NONE) {
                    continue;
                }
                int length = lengths[node] + step;
                boolean gains = lengths[i] == NONE || length < lengths[i];
                if (gains && ground.judge(places[node], places[i]) == OPEN) {
                    lengths[i] = length;
                    cameFrom[i] = node;
                }
            }
        }
    }

    /** The places of a way in their order. */
    private static final class Row {
        final int[] places;
        int size;

        Row() {
            places = new int[MOST_NODES];
        }
    }

    /** One who stands, or goes along a row of places. */
    private static final class Walker {
        final Row row;
        int passed;
        int place;
        int waits;
        boolean stuck;
        int steps;
        int length;
        int looks;

        Walker() {
            row = new Row();
        }

        int ahead() {
            return row.size - passed;
        }

        /** The first place ahead, or where it stands if there is none. */
        int nextPlace() {
            return passed < row.size ? row.places[passed] : place;
        }

        /** The last place ahead, or where it stands if there is none. */
        int lastPlace() {
            return passed < row.size ? row.places[row.size - 1] : place;
        }

        /** A new way begins where it stands: that place is passed already. */
        void beginRow() {
            passed = 1;
        }

        void dropRow() {
            row.size = 0;
            passed = 0;
        }

        void stepOn(int stepLength) {
            place = nextPlace();
            passed++;
            waits = 0;
            steps++;
            length += stepLength;
        }
    }
}
