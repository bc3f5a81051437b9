import java.util.function.IntUnaryOperator;

/**
 * The sentences of the document that name a boundary, one method each, with the last that is still
 * good and the first that is not. The sentence stands above the method; answers were found by hand.
 */
public final class EdgeTest {
    private static final int NONE = -1, BAD = -2, NO = -3, FULL = -4;
    private static final int LEAST = Integer.MIN_VALUE, MOST = Integer.MAX_VALUE;
    private static final Due DUE = new Due();

    public static void main(String[] args) {
        levels();
        places();
        roomNumbers();
        sides();
        roomEdges();
        boxNumbers();
        inside();
        ground();
        groundBetweenWholePlaces();
        doorsAndLedgesAreStraight();
        doorAndLedgeNumbers();
        doorIsOpenOrShut();
        ledgeDirections();
        ladderEnds();
        legOfOnePlace();
        openGround();
        openDoors();
        openLedges();
        lengths();
        nodesOfRooms();
        nodesOfBoxes();
        nodesOfEachBox();
        nodesOfAll();
        nodesOfLadders();
        nodesByKind();
        nodesLeftOut();
        steps();
        stepsByLadders();
        wayIsAllTogether();
        settledByLength();
        likeLengthsStay();
        readBack();
        noWay();
        walkersAsTheyCome();
        rowAhead();
        byNumbers();
        stillOpen();
        ladderStillOpen();
        noOtherStandsThere();
        thirdTime();
        looksFromWhereItStands();
        othersLeftOut();
        stuck();
        lastPlaceReached();
        noOneInsideABox();
        newObject();
        firstNumbersAndLast();
        sayings();
        DUE.end();
    }

    private static void is(String what, long got, long want) {
        DUE.is(what, got, want);
    }

    /** A place in one number: level * 1000000 + x * 1000 + y; the answer itself if it is below 0. */
    private static int bendAt(GroundKeeper g, int i) {
        int x = g.bend(i, 0);
        return x < 0 ? x : g.bend(i, 2) * 1000000 + x * 1000 + g.bend(i, 1);
    }

    private static int standsAt(GroundKeeper g, int walker) {
        return g.about(walker, 2) * 1000000 + g.about(walker, 0) * 1000 + g.about(walker, 1);
    }

    private static int at(int level, int x, int y) {
        return level * 1000000 + x * 1000 + y;
    }

    private static GroundKeeper hall() {
        GroundKeeper g = new GroundKeeper();
        g.room(0, 0, 0, 20, 20);
        return g;
    }

    /** A hall of 20 by 20 on each level. */
    private static GroundKeeper halls() {
        GroundKeeper g = hall();
        g.room(1, 0, 0, 20, 20);
        g.room(2, 0, 0, 20, 20);
        return g;
    }

    /** All of each level is ground, ladders lead everywhere, walker 0 stands at 50, 50 of level 1. */
    private static GroundKeeper wide() {
        GroundKeeper g = new GroundKeeper();
        for (int level = 0; level < 3; level++) {
            g.room(level, 0, 0, 100, 100);
        }
        g.ladder(0, 10, 10, 1, 10, 10, 1);
        g.ladder(1, 20, 20, 2, 20, 20, 1);
        g.walker(1, 50, 50);
        return g;
    }

    private interface Call {
        int of(GroundKeeper g, int number);
    }

    /** The call answers BAD with each of these numbers, and something else with each of those. */
    private static void bounds(String what, Call call, int[] wrong, int[] good) {
        for (int number : wrong) {
            is(what + " " + number, call.of(wide(), number), BAD);
        }
        for (int number : good) {
            DUE.holds(what + " " + number + " is as told", call.of(wide(), number) >= 0);
        }
    }

    /** "LEVELS are 0, 1, 2". */
    private static void levels() {
        int[] wrong = {LEAST, -1, 3, MOST};
        int[] good = {0, 1, 2};
        bounds("room, level", (g, l) -> g.room(l, 0, 0, 1, 1), wrong, good);
        bounds("box, level", (g, l) -> g.box(l, 0, 0, 1, 1), wrong, good);
        bounds("door, level", (g, l) -> g.door(l, 0, 0, 0, 1), wrong, good);
        bounds("ledge, level", (g, l) -> g.ledge(l, 0, 0, 0, 1, true), wrong, good);
        bounds("ladder, level", (g, l) -> g.ladder(l, 0, 0, l == 0 ? 1 : 0, 0, 0, 1), wrong, good);
        bounds("ladder, other", (g, l) -> g.ladder(l == 0 ? 1 : 0, 0, 0, l, 0, 0, 1), wrong, good);
        bounds("may, level", (g, l) -> g.may(l, 0, 0), wrong, good);
        bounds("see, level", (g, l) -> g.see(l, 0, 0, 1, 1), wrong, good);
        bounds("way, level", (g, l) -> g.way(l, 0, 0, 1, 1, 1), wrong, good);
        bounds("way, other", (g, l) -> g.way(1, 0, 0, l, 1, 1), wrong, good);
        bounds("reach, level", (g, l) -> g.reach(l, 0, 0), wrong, good);
        bounds("walker, level", (g, l) -> g.walker(l, 0, 0), wrong, good);
        bounds("go, level", (g, l) -> g.go(0, l, 0, 0), wrong, good);
    }

    /** "PLACES have whole x, y, 0 .. 100." */
    private static void places() {
        int[] wrong = {LEAST, -1, 101, MOST};
        int[] good = {0, 1, 99, 100};
        bounds("ladder, x", (g, v) -> g.ladder(0, v, 5, 1, 5, 5, 1), wrong, good);
        bounds("ladder, y", (g, v) -> g.ladder(0, 5, v, 1, 5, 5, 1), wrong, good);
        bounds("ladder, ox", (g, v) -> g.ladder(0, 5, 5, 1, v, 5, 1), wrong, good);
        bounds("ladder, oy", (g, v) -> g.ladder(0, 5, 5, 1, 5, v, 1), wrong, good);
        bounds("may, x", (g, v) -> g.may(0, v, 5), wrong, good);
        bounds("may, y", (g, v) -> g.may(0, 5, v), wrong, good);
        bounds("see, x", (g, v) -> g.see(0, v, 5, 5, 5), wrong, good);
        bounds("see, y", (g, v) -> g.see(0, 5, v, 5, 5), wrong, good);
        bounds("see, ox", (g, v) -> g.see(0, 5, 5, v, 5), wrong, good);
        bounds("see, oy", (g, v) -> g.see(0, 5, 5, 5, v), wrong, good);
        bounds("way, x", (g, v) -> g.way(0, v, 5, 1, 5, 5), wrong, good);
        bounds("way, y", (g, v) -> g.way(0, 5, v, 1, 5, 5), wrong, good);
        bounds("way, ox", (g, v) -> g.way(0, 5, 5, 1, v, 5), wrong, good);
        bounds("way, oy", (g, v) -> g.way(0, 5, 5, 1, 5, v), wrong, good);
        bounds("reach, x", (g, v) -> g.reach(0, v, 5), wrong, good);
        bounds("reach, y", (g, v) -> g.reach(0, 5, v), wrong, good);
        bounds("walker, x", (g, v) -> g.walker(0, v, 5), wrong, good);
        bounds("walker, y", (g, v) -> g.walker(0, 5, v), wrong, good);
        bounds("go, x", (g, v) -> g.go(0, 0, v, 5), wrong, good);
        bounds("go, y", (g, v) -> g.go(0, 0, 5, v), wrong, good);
        // Of doors and ledges, from and to are alike in x or in y: the other number is the free one.
        bounds("door, x0", (g, v) -> g.door(0, v, 5, 50, 5), wrong, good);
        bounds("door, y0", (g, v) -> g.door(0, 5, v, 5, 50), wrong, good);
        bounds("door, x1", (g, v) -> g.door(0, 50, 5, v, 5), wrong, good);
        bounds("door, y1", (g, v) -> g.door(0, 5, 50, 5, v), wrong, good);
        bounds("door, both x", (g, v) -> g.door(0, v, 5, v, 50), wrong, good);
        bounds("door, both y", (g, v) -> g.door(0, 5, v, 50, v), wrong, good);
        bounds("ledge, x0", (g, v) -> g.ledge(0, v, 5, 50, 5, true), wrong, good);
        bounds("ledge, y0", (g, v) -> g.ledge(0, 5, v, 5, 50, true), wrong, good);
        bounds("ledge, x1", (g, v) -> g.ledge(0, 50, 5, v, 5, false), wrong, good);
        bounds("ledge, y1", (g, v) -> g.ledge(0, 5, 50, 5, v, false), wrong, good);
        bounds("ledge, both x", (g, v) -> g.ledge(0, v, 5, v, 50, true), wrong, good);
        bounds("ledge, both y", (g, v) -> g.ledge(0, 5, v, 50, v, true), wrong, good);
        int[] low = {0, 1, 99};
        int[] high = {1, 2, 100};
        bounds("room, x0", (g, v) -> g.room(0, v, 0, 100, 100), wrong, low);
        bounds("room, y0", (g, v) -> g.room(0, 0, v, 100, 100), wrong, low);
        bounds("room, x1", (g, v) -> g.room(0, 0, 0, v, 100), wrong, high);
        bounds("room, y1", (g, v) -> g.room(0, 0, 0, 100, v), wrong, high);
        bounds("box, x0", (g, v) -> g.box(0, v, 0, 100, 100), wrong, low);
        bounds("box, y0", (g, v) -> g.box(0, 0, v, 100, 100), wrong, low);
        bounds("box, x1", (g, v) -> g.box(0, 0, 0, v, 100), wrong, high);
        bounds("box, y1", (g, v) -> g.box(0, 0, 0, 100, v), wrong, high);
    }

    /** "ROOMS 0 .. 11, as they come"; "FULL: 12." They are counted on all LEVELS together. */
    private static void roomNumbers() {
        GroundKeeper g = new GroundKeeper();
        for (int i = 0; i < 12; i++) {
            is("room " + i, g.room(i % 3, 8 * i, 0, 8 * i + 8, 8), i);
            is("rooms", g.count(0), i + 1);
        }
        for (int level = 0; level < 3; level++) {
            is("room 12 on level " + level, g.room(level, 0, 50, 8, 58), FULL);
            is("it is no ground", g.may(level, 4, 54), 0);
        }
        for (int i = 0; i < 12; i++) {
            is("room " + i + " is where it was laid", g.may(i % 3, 8 * i + 4, 4), 1);
            is("and on no other level", g.may((i + 1) % 3, 8 * i + 4, 4), 0);
        }
        is("rooms", g.count(0), 12);
    }

    /** "x0 below x1, y0 below y1"; "BOXES 0 .. 7 likewise". */
    private static void sides() {
        GroundKeeper g = hall();
        is("room, x0 is x1", g.room(0, 7, 0, 7, 5), BAD);
        is("room, x0 above x1", g.room(0, 8, 0, 7, 5), BAD);
        is("room, y0 is y1", g.room(0, 0, 7, 5, 7), BAD);
        is("room, y0 above y1", g.room(0, 0, 8, 5, 7), BAD);
        is("room, both turned", g.room(0, 8, 8, 7, 7), BAD);
        is("room, a place alone", g.room(0, 7, 7, 7, 7), BAD);
        is("room, x0 one below x1, y0 one below y1", g.room(0, 7, 7, 8, 8), 1);
        is("box, x0 is x1", g.box(0, 7, 0, 7, 5), BAD);
        is("box, x0 above x1", g.box(0, 8, 0, 7, 5), BAD);
        is("box, y0 is y1", g.box(0, 0, 7, 5, 7), BAD);
        is("box, y0 above y1", g.box(0, 0, 8, 5, 7), BAD);
        is("box, both turned", g.box(0, 8, 8, 7, 7), BAD);
        is("box, a place alone", g.box(0, 7, 7, 7, 7), BAD);
        is("box, x0 one below x1, y0 one below y1", g.box(0, 7, 7, 8, 8), 0);
        is("the least room is ground", new GroundKeeper().room(2, 99, 99, 100, 100), 0);
    }

    /** "a LEVEL's x0 .. x1, y0 .. y1, edges included". */
    private static void roomEdges() {
        GroundKeeper g = new GroundKeeper();
        g.room(1, 10, 30, 20, 40);
        for (int y = 29; y <= 41; y++) {
            for (int x = 9; x <= 21; x++) {
                boolean in = x >= 10 && x <= 20 && y >= 30 && y <= 40;
                is("may " + x + ", " + y, g.may(1, x, y), in ? 1 : 0);
            }
        }
        GroundKeeper all = new GroundKeeper();
        all.room(2, 0, 0, 100, 100);
        is("the first place of a level", all.may(2, 0, 0), 1);
        is("the last place of a level", all.may(2, 100, 100), 1);
        is("its other corners", all.may(2, 0, 100) + all.may(2, 100, 0), 2);
        is("another level", all.may(1, 100, 100), 0);
    }

    /** "BOXES 0 .. 7"; "its number (the least that is not down)"; "FULL: 8 are". */
    private static void boxNumbers() {
        GroundKeeper g = hall();
        for (int i = 0; i < 8; i++) {
            is("box " + i, g.box(i % 3, 2 * i, 0, 2 * i + 2, 2), i);
            is("boxes down", g.count(1), i + 1);
        }
        is("box 8", g.box(0, 10, 10, 12, 12), FULL);
        is("it is not down", g.may(0, 11, 11), 1);
        is("box 8 on another level", g.box(1, 10, 10, 12, 12), FULL);
        is("take 7", g.take(7), 1);
        is("seven are down", g.count(1), 7);
        is("7 is the only one", g.box(0, 10, 10, 12, 12), 7);
        is("full again", g.box(0, 10, 10, 12, 12), FULL);
        for (int i : new int[] {6, 2, 4, 0}) {
            is("take " + i, g.take(i), 1);
        }
        for (int i : new int[] {0, 2, 4, 6}) {
            is("the least that is not down", g.box(0, 15, 15, 17, 17), i);
        }
        is("and full", g.box(0, 15, 15, 17, 17), FULL);
        for (int i = 0; i < 8; i++) {
            is("take each", g.take(i), 1);
        }
        is("none is down", g.count(1), 0);
        is("the first one again", g.box(0, 15, 15, 17, 17), 0);
    }

    /** "what is INSIDE one are places beyond none of its edges, and not on one". */
    private static void inside() {
        GroundKeeper g = hall();
        g.box(0, 5, 8, 9, 14);
        for (int y = 7; y <= 15; y++) {
            for (int x = 4; x <= 10; x++) {
                boolean in = x > 5 && x < 9 && y > 8 && y < 14;
                is("may " + x + ", " + y, g.may(0, x, y), in ? 0 : 1);
            }
        }
        GroundKeeper small = hall();
        small.box(0, 5, 5, 6, 6);
        is("a box with no whole place inside", small.may(0, 5, 5) + small.may(0, 6, 5) + small.may(0, 6, 6) + small.may(0, 5, 6), 4);
        small.box(0, 5, 10, 7, 12);
        is("a box with one whole place inside", small.may(0, 6, 11), 0);
        is("the places around it", small.may(0, 5, 11) + small.may(0, 7, 11) + small.may(0, 6, 10) + small.may(0, 6, 12), 4);
    }

    /** "all points of its ROOMS that are INSIDE no BOX that is down". */
    private static void ground() {
        GroundKeeper g = halls();
        g.box(1, 5, 5, 9, 9);
        is("inside a box of the level", g.may(1, 7, 7), 0);
        is("the same place of the level below", g.may(0, 7, 7), 1);
        is("the same place of the level above", g.may(2, 7, 7), 1);
        g.box(1, 7, 5, 11, 9);
        is("on an edge of the one, inside the other", g.may(1, 7, 7) + g.may(1, 9, 7), 0);
        g.take(0);
        is("inside one of them still", g.may(1, 9, 7), 0);
        is("an edge again", g.may(1, 7, 7), 1);
        is("inside the one that was taken up", g.may(1, 6, 7), 1);
        g.take(1);
        is("inside none", g.may(1, 9, 7), 1);
        g.box(0, 18, 18, 25, 25);
        is("a box over the room's edge", g.may(0, 19, 20), 0);
        is("beyond the room a box makes no ground", g.may(0, 25, 25), 0);
        g.room(0, 10, 10, 30, 30);
        is("a room laid over a box", g.may(0, 19, 20), 0);
        is("that room beside the box", g.may(0, 25, 25), 1);
    }

    /** "all points (not only whole ones)". */
    private static void groundBetweenWholePlaces() {
        GroundKeeper g = hall();
        g.box(0, 5, 5, 6, 6);
        is("through a box with no whole place inside", g.see(0, 5, 5, 6, 6), 0);
        is("from corner to corner the other way", g.see(0, 5, 6, 6, 5), 0);
        is("through it from afar", g.see(0, 0, 5, 11, 6), 0);
        is("along its edges", g.see(0, 0, 5, 20, 5) + g.see(0, 6, 0, 6, 20), 2);
        GroundKeeper gap = new GroundKeeper();
        gap.room(0, 0, 0, 10, 10);
        gap.room(0, 11, 0, 20, 10);
        is("a gap between x = 10 and x = 11", gap.see(0, 10, 5, 11, 5), 0);
        is("slanting over it", gap.see(0, 9, 4, 12, 6), 0);
        gap.room(0, 0, 11, 20, 20);
        is("a gap between y = 10 and y = 11", gap.see(0, 5, 11, 5, 10), 0);
        GroundKeeper near = new GroundKeeper();
        near.room(0, 0, 0, 100, 100);
        // The leg from 0, 0 to 100, 99 passes 1, 1 a hundredth below it and 99, 98 a hundredth above it.
        near.box(0, 0, 1, 1, 2);
        is("a hundredth beside a corner", near.see(0, 0, 0, 100, 99), 1);
        near.box(0, 99, 97, 100, 98);
        is("beside another one, back", near.see(0, 100, 99, 0, 0), 1);
        near.box(0, 1, 0, 2, 1);
        is("a hundredth into a corner", near.see(0, 0, 0, 100, 99), 0);
        near.take(2);
        near.box(0, 98, 98, 99, 99);
        is("into another one, back", near.see(0, 100, 99, 0, 0), 0);
    }

    /** "straight along x or along y: from one PLACE to another one"; "also from and to alike in both x and y, or in none". */
    private static void doorsAndLedgesAreStraight() {
        GroundKeeper g = hall();
        is("door, alike in both", g.door(0, 5, 5, 5, 5), BAD);
        is("door, alike in none", g.door(0, 5, 5, 6, 6), BAD);
        is("door, alike in none, by much", g.door(0, 0, 0, 100, 1), BAD);
        is("door, the least along x", g.door(0, 5, 5, 6, 5), 0);
        is("door, the least along y", g.door(0, 5, 5, 5, 6), 1);
        is("door, toward less x", g.door(0, 6, 5, 5, 5), 2);
        is("door, toward less y", g.door(0, 5, 6, 5, 5), 3);
        is("door, the longest", g.door(0, 0, 100, 100, 100), 4);
        is("door off the ground", g.door(2, 100, 100, 100, 0), 5);
        is("ledge, alike in both", g.ledge(0, 5, 5, 5, 5, true), BAD);
        is("ledge, alike in none", g.ledge(0, 5, 5, 6, 6, false), BAD);
        is("ledge, alike in none, by much", g.ledge(0, 0, 0, 1, 100, false), BAD);
        is("ledge, the least along x", g.ledge(0, 5, 5, 6, 5, true), 0);
        is("ledge, the least along y", g.ledge(0, 5, 5, 5, 6, true), 1);
        is("ledge, toward less x", g.ledge(0, 6, 5, 5, 5, false), 2);
        is("ledge, toward less y", g.ledge(0, 5, 6, 5, 5, false), 3);
        is("ledge, the longest", g.ledge(0, 100, 100, 0, 100, true), 4);
        is("ledge off the ground", g.ledge(2, 100, 0, 100, 100, true), 5);
    }

    /** "DOORS 0 .. 5, LEDGES 0 .. 5"; "LADDERS 0 .. 5"; "FULL: 6." */
    private static void doorAndLedgeNumbers() {
        GroundKeeper g = halls();
        for (int i = 0; i < 6; i++) {
            is("door " + i, g.door(i % 3, 3 * i, 0, 3 * i, 20), i);
            is("ledge " + i, g.ledge(i % 3, 0, 3 * i, 20, 3 * i, true), i);
            is("ladder " + i, g.ladder(i % 3, i, i, (i + 1) % 3, i, i, i), i);
            is("their counts", g.count(2) + g.count(4) + g.count(5), 3 * (i + 1));
        }
        for (int i = 0; i < 3; i++) {
            is("door 6 on level " + i, g.door(i, 19, 0, 19, 20), FULL);
            is("ledge 6 on level " + i, g.ledge(i, 0, 19, 20, 19, true), FULL);
            is("ladder 6 from level " + i, g.ladder(i, 9, 9, (i + 1) % 3, 9, 9, 9), FULL);
        }
        is("their counts", g.count(2) * 100 + g.count(4) * 10 + g.count(5), 666);
        is("door 5 is one", g.shut(5, true), 1);
        is("door 6 is none", g.shut(6, true), BAD);
        is("door 5 is where it was laid", g.see(2, 15, 1, 15, 1), -10);
    }

    /** "A DOOR is open or SHUT"; "A DOOR, open: its number"; "NO: it is so, or a WALKER stands on it (as it is to be SHUT)". */
    private static void doorIsOpenOrShut() {
        GroundKeeper g = halls();
        g.door(0, 10, 15, 10, 5);
        is("a new one is open", g.see(0, 0, 10, 20, 10), 1);
        is("to open it is no", g.shut(0, false), NO);
        is("doors shut", g.count(3), 0);
        is("to shut it", g.shut(0, true), 1);
        is("to shut it again is no", g.shut(0, true), NO);
        is("doors shut", g.count(3), 1);
        is("to open it", g.shut(0, false), 1);
        is("to open it again is no", g.shut(0, false), NO);
        is("doors shut", g.count(3), 0);
        is("one beyond its end", g.walker(0, 10, 4), 0);
        is("one beyond its other end", g.walker(0, 10, 16), 1);
        is("one beside it", g.walker(0, 11, 10), 2);
        is("one at its place of another level", g.walker(1, 10, 10), 3);
        is("these stand on no door", g.shut(0, true), 1);
        g.shut(0, false);
        is("one at its end", g.walker(0, 10, 5), 4);
        is("that one stands on it", g.shut(0, true), NO);
        g.go(4, 0, 0, 0);
        is("one who is told to go stands there still", g.shut(0, true), NO);
        g.tick(1);
        is("one who has gone does not", g.shut(0, true), 1);
        g.shut(0, false);
        is("one at its other end", g.walker(0, 10, 15), 5);
        is("that one stands on it", g.shut(0, true), NO);
        g.go(5, 0, 10, 10);
        g.tick(1);
        is("one in its middle", g.shut(0, true), NO);
        is("doors shut", g.count(3), 0);
        for (int one = 0; one < 6; one++) {
            GroundKeeper h = hall();
            h.door(0, 10, 5, 15, 5);
            for (int i = 0; i < 6; i++) {
                h.walker(0, 10 + i % 6, i == one ? 5 : 6);
            }
            is("walker " + one + " stands on it", h.shut(0, true), NO);
        }
    }

    /** "toward greater x alone if it is RISING, else toward less x; one along x likewise with y". */
    private static void ledgeDirections() {
        for (int turned = 0; turned < 2; turned++) {
            int from = turned == 0 ? 2 : 18;
            GroundKeeper rising = hall();
            rising.ledge(0, 10, from, 10, 20 - from, true);
            is("rising along y, toward greater x", rising.see(0, 9, 10, 11, 10), 1);
            is("rising along y, toward less x", rising.see(0, 11, 10, 9, 10), -11);
            GroundKeeper falling = hall();
            falling.ledge(0, 10, from, 10, 20 - from, false);
            is("falling along y, toward greater x", falling.see(0, 9, 10, 11, 10), -11);
            is("falling along y, toward less x", falling.see(0, 11, 10, 9, 10), 1);
            GroundKeeper up = hall();
            up.ledge(0, from, 10, 20 - from, 10, true);
            is("rising along x, toward greater y", up.see(0, 10, 9, 10, 11), 1);
            is("rising along x, toward less y", up.see(0, 10, 11, 10, 9), -11);
            GroundKeeper down = hall();
            down.ledge(0, from, 10, 20 - from, 10, false);
            is("falling along x, toward greater y", down.see(0, 10, 9, 10, 11), -11);
            is("falling along x, toward less y", down.see(0, 10, 11, 10, 9), 1);
        }
        GroundKeeper both = hall();
        both.ledge(0, 10, 0, 10, 20, true);
        both.ledge(0, 10, 5, 10, 15, false);
        is("two on one line, where both are", both.see(0, 9, 10, 11, 10) + both.see(0, 11, 10, 9, 10), -22);
        is("where one alone is", both.see(0, 9, 4, 11, 4), 1);
    }

    /** "LADDERS join two PLACES of unlike LEVELS at a cost (0 .. 1000000)"; "BAD: also one LEVEL". */
    private static void ladderEnds() {
        for (int a = 0; a < 3; a++) {
            for (int b = 0; b < 3; b++) {
                is("levels " + a + ", " + b, halls().ladder(a, 3, 3, b, 4, 4, 5), a == b ? BAD : 0);
            }
        }
        is("cost -1", halls().ladder(0, 3, 3, 1, 3, 3, -1), BAD);
        is("the least cost", halls().ladder(0, 3, 3, 1, 3, 3, LEAST), BAD);
        is("cost 1000001", halls().ladder(0, 3, 3, 1, 3, 3, 1000001), BAD);
        is("the greatest cost", halls().ladder(0, 3, 3, 1, 3, 3, MOST), BAD);
        GroundKeeper g = halls();
        is("cost 0", g.ladder(0, 3, 3, 1, 3, 3, 0), 0);
        is("cost 1000000", g.ladder(1, 3, 3, 2, 3, 3, 1000000), 1);
        is("by the one", g.way(0, 3, 3, 1, 3, 3), 0);
        is("by the other one", g.way(1, 3, 3, 2, 3, 3), 1000000);
        is("by both", g.way(2, 3, 3, 0, 3, 3), 1000000);
        is("off the ground", g.ladder(0, 90, 90, 1, 3, 3, 5), 2);
        is("it leads nowhere", g.reach(0, 3, 3), 12);
    }

    /** "A LEG goes straight from one PLACE to another one (perhaps the same)". */
    private static void legOfOnePlace() {
        GroundKeeper g = hall();
        is("a place on the ground", g.see(0, 7, 7, 7, 7), 1);
        is("a corner", g.see(0, 20, 0, 20, 0), 1);
        is("a place off the ground", g.see(0, 21, 7, 21, 7), 0);
        g.box(0, 4, 4, 8, 8);
        is("a place inside a box", g.see(0, 7, 7, 7, 7), 0);
        is("a place on its edge", g.see(0, 8, 7, 8, 7), 1);
        g.door(0, 10, 5, 10, 9);
        g.shut(0, true);
        is("a place on a shut door", g.see(0, 10, 7, 10, 7), -10);
        is("at its end", g.see(0, 10, 9, 10, 9), -10);
        is("beyond its end", g.see(0, 10, 10, 10, 10), 1);
        g.ledge(0, 15, 0, 15, 20, true);
        is("a place on a ledge", g.see(0, 15, 7, 15, 7), 1);
        is("its length", g.way(0, 15, 7, 0, 15, 7), 0);
    }

    /** "It is OPEN, if each of its points is on the GROUND". */
    private static void openGround() {
        GroundKeeper g = new GroundKeeper();
        g.room(0, 0, 0, 10, 10);
        g.room(0, 10, 10, 20, 20);
        is("over a corner that two rooms share", g.see(0, 0, 0, 20, 20), 1);
        is("and back", g.see(0, 20, 20, 0, 0), 1);
        is("from the corner", g.see(0, 10, 10, 20, 20), 1);
        is("beside the corner", g.see(0, 9, 10, 11, 11), 0);
        is("its begin alone is off", g.see(0, 11, 9, 10, 10), 0);
        is("its end alone is off", g.see(0, 10, 10, 11, 9), 0);
        is("along an edge to its end", g.see(0, 0, 10, 10, 10), 1);
        is("one farther is along the other room", g.see(0, 0, 10, 20, 10), 1);
        is("beyond that", g.see(0, 0, 10, 21, 10), 0);
        GroundKeeper row = new GroundKeeper();
        for (int i = 11; i >= 0; i--) {
            row.room(2, 8 * i, 40, 8 * i + 8, 60);
        }
        is("over twelve rooms", row.see(2, 0, 40, 96, 60), 1);
        is("and back", row.see(2, 96, 60, 0, 40), 1);
        is("over the outer edge", row.see(2, 0, 40, 97, 60), 0);
        GroundKeeper lap = new GroundKeeper();
        lap.room(0, 0, 0, 10, 10);
        lap.room(0, 5, 5, 15, 15);
        lap.room(0, 2, 2, 12, 8);
        is("rooms laid over one another", lap.see(0, 0, 0, 15, 15), 1);
        is("out of them and in again", lap.see(0, 12, 2, 15, 14), 0);
        boxesAreNoGround();
    }

    private static void boxesAreNoGround() {
        GroundKeeper g = hall();
        g.box(0, 8, 8, 12, 12);
        int[][] edges = {{0, 8, 20, 8}, {0, 12, 20, 12}, {8, 0, 8, 20}, {12, 0, 12, 20}};
        int[][] oneIn = {{0, 9, 20, 9}, {0, 11, 20, 11}, {9, 0, 9, 20}, {11, 0, 11, 20}};
        int[][] corners = {{4, 12, 12, 4}, {8, 4, 16, 12}, {16, 8, 8, 16}, {12, 16, 4, 8}};
        int[][] cut = {{4, 13, 13, 4}, {7, 4, 16, 13}, {16, 7, 7, 16}, {13, 16, 4, 7}};
        for (int i = 0; i < 4; i++) {
            is("along edge " + i, g.see(0, edges[i][0], edges[i][1], edges[i][2], edges[i][3]), 1);
            is("one inside edge " + i, g.see(0, oneIn[i][0], oneIn[i][1], oneIn[i][2], oneIn[i][3]), 0);
            is("by corner " + i, g.see(0, corners[i][0], corners[i][1], corners[i][2], corners[i][3]), 1);
            is("cutting corner " + i, g.see(0, cut[i][0], cut[i][1], cut[i][2], cut[i][3]), 0);
        }
        is("up to each edge", g.see(0, 0, 10, 8, 10) + g.see(0, 20, 10, 12, 10) + g.see(0, 10, 0, 10, 8) + g.see(0, 10, 20, 10, 12), 4);
        is("one farther", g.see(0, 0, 10, 9, 10) + g.see(0, 20, 10, 11, 10) + g.see(0, 10, 0, 10, 9) + g.see(0, 10, 20, 10, 11), 0);
        is("from edge to edge", g.see(0, 8, 10, 10, 8) + g.see(0, 8, 10, 12, 10) + g.see(0, 10, 8, 10, 12), 0);
        g.box(0, 12, 8, 16, 12);
        is("between two boxes that touch", g.see(0, 12, 0, 12, 20), 1);
        is("across both", g.see(0, 8, 10, 16, 10), 0);
        g.box(0, 2, 16, 6, 20);
        is("between a box and the wall that it touches", g.see(0, 0, 20, 20, 20), 1);
        g.box(0, 2, 16, 6, 21);
        is("a box that reaches over the wall", g.see(0, 0, 20, 20, 20), 0);
    }

    /** "no SHUT DOOR has a point in common with it". */
    private static void openDoors() {
        GroundKeeper g = hall();
        g.door(0, 8, 10, 12, 10);
        g.shut(0, true);
        is("across its middle", g.see(0, 10, 0, 10, 20), -10);
        is("by its ends", g.see(0, 8, 0, 8, 20) + g.see(0, 12, 20, 12, 0), -20);
        is("one beyond its ends", g.see(0, 7, 0, 7, 20) + g.see(0, 13, 20, 13, 0), 2);
        is("up to it", g.see(0, 10, 0, 10, 10) + g.see(0, 10, 20, 10, 10), -20);
        is("short of it", g.see(0, 10, 0, 10, 9) + g.see(0, 10, 20, 10, 11), 2);
        is("along it", g.see(0, 0, 10, 20, 10), -10);
        is("up to its end along it", g.see(0, 0, 10, 8, 10) + g.see(0, 20, 10, 12, 10), -20);
        is("short of its end along it", g.see(0, 0, 10, 7, 10) + g.see(0, 20, 10, 13, 10), 2);
        is("beside it", g.see(0, 0, 9, 20, 9) + g.see(0, 0, 11, 20, 11), 2);
        is("slanting by its end", g.see(0, 7, 9, 9, 11) + g.see(0, 13, 9, 11, 11), -20);
        is("slanting past its end", g.see(0, 6, 9, 9, 11) + g.see(0, 14, 9, 11, 11), 2);
        g.shut(0, false);
        is("an open one", g.see(0, 10, 0, 10, 20), 1);
        GroundKeeper near = new GroundKeeper();
        near.room(0, 0, 0, 100, 100);
        near.door(0, 1, 5, 1, 1);
        near.door(0, 99, 98, 100, 98);
        near.door(0, 98, 98, 90, 98);
        for (int i = 0; i < 3; i++) {
            near.shut(i, true);
        }
        is("a hundredth beside three ends", near.see(0, 0, 0, 100, 99), 1);
        near.door(0, 1, 0, 1, 1);
        near.shut(3, true);
        is("a hundredth within an end", near.see(0, 0, 0, 100, 99), -10);
        near.shut(3, false);
        near.door(0, 90, 98, 99, 98);
        near.shut(4, true);
        is("within another one, back", near.see(0, 100, 99, 0, 0), -10);
        GroundKeeper levels = halls();
        levels.door(1, 10, 0, 10, 20);
        levels.shut(0, true);
        is("of its level alone", levels.see(0, 0, 5, 20, 5) + levels.see(2, 0, 5, 20, 5), 2);
        is("there it is", levels.see(1, 0, 5, 20, 5), -10);
    }

    /** "one end of the LEG has x below c, the other one above, and its point at x = c lies on the LEDGE (ends included); along x likewise". */
    private static void openLedges() {
        GroundKeeper y = hall();
        y.ledge(0, 10, 8, 10, 12, true);
        is("by its ends", y.see(0, 11, 8, 9, 8) + y.see(0, 20, 12, 0, 12), -22);
        is("one beyond its ends", y.see(0, 11, 7, 9, 7) + y.see(0, 20, 13, 0, 13), 2);
        is("slanting by its ends", y.see(0, 11, 7, 9, 9) + y.see(0, 11, 13, 9, 11), -22);
        is("slanting half a step beyond its ends", y.see(0, 11, 7, 9, 8) + y.see(0, 11, 13, 9, 12), 2);
        is("to its line", y.see(0, 20, 10, 10, 10), 1);
        is("from its line", y.see(0, 10, 10, 0, 10), 1);
        is("one over its line, either side", y.see(0, 20, 10, 9, 10) + y.see(0, 11, 10, 0, 10), -22);
        is("along its line", y.see(0, 10, 0, 10, 20) + y.see(0, 10, 20, 10, 0), 2);
        is("wholly on either side", y.see(0, 9, 10, 0, 10) + y.see(0, 20, 10, 11, 10), 2);
        GroundKeeper x = hall();
        x.ledge(0, 8, 10, 12, 10, false);
        is("along x, by its ends", x.see(0, 8, 9, 8, 11) + x.see(0, 12, 0, 12, 20), -22);
        is("along x, one beyond its ends", x.see(0, 7, 9, 7, 11) + x.see(0, 13, 0, 13, 20), 2);
        is("along x, slanting by its ends", x.see(0, 7, 9, 9, 11) + x.see(0, 13, 9, 11, 11), -22);
        is("along x, slanting half a step beyond", x.see(0, 7, 9, 8, 11) + x.see(0, 13, 9, 12, 11), 2);
        is("along x, to its line", x.see(0, 10, 0, 10, 10), 1);
        is("along x, from its line", x.see(0, 10, 10, 10, 20), 1);
        is("along x, one over its line, either side", x.see(0, 10, 0, 10, 11) + x.see(0, 10, 9, 10, 20), -22);
        is("along x, along its line", x.see(0, 0, 10, 20, 10) + x.see(0, 20, 10, 0, 10), 2);
        GroundKeeper near = new GroundKeeper();
        near.room(0, 0, 0, 100, 100);
        near.ledge(0, 1, 1, 1, 9, false);
        near.ledge(0, 99, 98, 100, 98, false);
        is("a hundredth beside two ends", near.see(0, 0, 0, 100, 99), 1);
        near.ledge(0, 1, 1, 1, 0, false);
        is("a hundredth within an end", near.see(0, 0, 0, 100, 99), -11);
        GroundKeeper levels = halls();
        levels.ledge(1, 10, 0, 10, 20, true);
        is("of its level alone", levels.see(0, 20, 5, 0, 5) + levels.see(2, 20, 5, 0, 5), 2);
        is("there it is", levels.see(1, 20, 5, 0, 5), -11);
    }

    /** "the greatest whole number the square of which is no more than 1000000 times the sum of the squares of both distances". */
    private static void lengths() {
        for (int dx = 0; dx <= 100; dx++) {
            GroundKeeper g = new GroundKeeper();
            g.room(0, 0, 0, 100, 100);
            for (int dy = 0; dy <= 100; dy++) {
                long square = 1000000L * (dx * dx + dy * dy);
                long length = g.way(0, 0, 0, 0, dx, dy);
                DUE.holds("no more, " + dx + ", " + dy, length >= 0 && length * length <= square);
                DUE.holds("the greatest, " + dx + ", " + dy, (length + 1) * (length + 1) > square);
            }
        }
        GroundKeeper g = new GroundKeeper();
        g.room(0, 0, 0, 100, 100);
        is("either way alike", g.way(0, 97, 3, 0, 14, 60), g.way(0, 14, 60, 0, 97, 3));
    }

    /** A hall with places of which ladders lead to one place above, the last told first. */
    private static GroundKeeper laddersFrom(int[][] places) {
        GroundKeeper g = halls();
        for (int i = places.length - 1; i >= 0; i--) {
            g.ladder(0, places[i][0], places[i][1], 1, 5, 5, 100);
        }
        return g;
    }

    /** "of each ROOM the corners x0, y0; x1, y0; x1, y1; x0, y1"; "of like ones the least number". */
    private static void nodesOfRooms() {
        int[][] corners = {{0, 0}, {20, 0}, {20, 20}, {0, 20}};
        for (int first = 0; first < 4; first++) {
            int[][] some = java.util.Arrays.copyOfRange(corners, first, 4);
            GroundKeeper g = laddersFrom(some);
            is("to one place by like corners from " + first, g.way(0, 10, 10, 1, 5, 5), 14142 + 100);
            is("the first of these corners", bendAt(g, 1), at(0, corners[first][0], corners[first][1]));
        }
        for (int turned = 0; turned < 2; turned++) {
            GroundKeeper ring = new GroundKeeper();
            ring.room(0, 0, 0, 5, 20);
            ring.room(0, 15, 0, 20, 20);
            ring.room(0, 5, turned == 0 ? 0 : 15, 15, turned == 0 ? 5 : 20);
            ring.room(0, 5, turned == 0 ? 15 : 0, 15, turned == 0 ? 20 : 5);
            is("around a hole, alike on both sides", ring.way(0, 0, 10, 0, 20, 10), 7071 + 10000 + 7071);
            is("by the room of the lesser number", bendAt(ring, 1), at(0, 5, turned == 0 ? 5 : 15));
            is("and on by it", bendAt(ring, 2), at(0, 15, turned == 0 ? 5 : 15));
        }
    }

    /** "of each BOX that is down likewise". */
    private static void nodesOfBoxes() {
        GroundKeeper g = hall();
        g.box(0, 5, 5, 15, 15);
        is("toward greater x", g.way(0, 0, 10, 0, 20, 10), 7071 + 10000 + 7071);
        is("by corners 0 and 1", bendAt(g, 1) * 10 + bendAt(g, 2), at(0, 5, 5) * 10 + at(0, 15, 5));
        g.way(0, 20, 10, 0, 0, 10);
        is("toward less x: by corners 1 and 0", bendAt(g, 1) * 10 + bendAt(g, 2), at(0, 15, 5) * 10 + at(0, 5, 5));
        g.way(0, 10, 0, 0, 10, 20);
        is("toward greater y: corner 2 is before 3", bendAt(g, 1) * 10 + bendAt(g, 2), at(0, 15, 5) * 10 + at(0, 15, 15));
        g.way(0, 10, 20, 0, 10, 0);
        is("toward less y: corner 0 is before 1", bendAt(g, 1) * 10 + bendAt(g, 2), at(0, 5, 15) * 10 + at(0, 5, 5));
        g.way(0, 0, 0, 0, 20, 20);
        is("corner 1 is before 3", bendAt(g, 1), at(0, 15, 5));
        g.way(0, 20, 0, 0, 0, 20);
        is("corner 0 is before 2", bendAt(g, 1), at(0, 5, 5));
        GroundKeeper two = hall();
        two.box(0, 5, 5, 15, 6);
        two.box(0, 5, 14, 15, 15);
        two.door(0, 10, 5, 10, 15);
        two.shut(0, true);
        is("the door ends at both boxes' far edges", two.way(0, 5, 10, 0, 15, 10), 5000 + 15811 + 11180);
        two.shut(0, false);
        two.door(0, 10, 6, 10, 14);
        two.shut(1, true);
        is("around either box", two.way(0, 5, 10, 0, 15, 10), 5000 + 10000 + 5000);
        is("by the box of the lesser number", bendAt(two, 1), at(0, 5, 5));
        two.take(0);
        two.box(0, 5, 14, 15, 15);
        two.take(1);
        two.box(0, 5, 5, 15, 6);
        is("their numbers changed", two.way(0, 5, 10, 0, 15, 10), 5000 + 10000 + 5000);
        is("by the lesser number again", bendAt(two, 1), at(0, 5, 15));
        two.take(0);
        is("one alone is down", two.way(0, 5, 10, 0, 15, 10), 20000);
        is("so by that one", bendAt(two, 1), at(0, 5, 5));
        two.take(1);
        is("none is down: no corner, no way but the hall's", two.way(0, 5, 10, 0, 15, 10), 11180 + 20000 + 11180);
    }

    /** "of each BOX that is down": of the last number, too. */
    private static void nodesOfEachBox() {
        for (int which = 0; which < 8; which++) {
            GroundKeeper g = hall();
            for (int i = 0; i < 8; i++) {
                g.box(0, i == which ? 5 : 50, 0, i == which ? 6 : 51, 19);
            }
            is("around box " + which, g.way(0, 5, 10, 0, 6, 10), 9000 + 1000 + 9000);
            is("by its corner", bendAt(g, 1), at(0, 5, 19));
            is("and the next one", bendAt(g, 2), at(0, 6, 19));
        }
    }

    /** "ROOMS 0 .. 11", "BOXES 0 .. 7", "LADDERS 0 .. 5", all of them NODES: the last ends are nodes still. */
    private static void nodesOfAll() {
        GroundKeeper g = new GroundKeeper();
        for (int i = 0; i < 12; i++) {
            g.room(i / 4, i % 4 * 25, 0, i % 4 * 25 + 25, 20);
        }
        for (int i = 0; i < 8; i++) {
            g.box(i % 3, 30 + 10 * (i / 3), 15, 32 + 10 * (i / 3), 18);
        }
        for (int i = 0; i < 5; i++) {
            g.ladder(0, 90 + i, 10, 1, 80 + i, 10, 1000);
        }
        g.ladder(1, 95, 7, 2, 70, 4, 1000);
        is("by the last ladder", g.way(1, 95, 0, 2, 70, 0), 7000 + 1000 + 4000);
        is("its first end", bendAt(g, 1), at(1, 95, 7));
        is("its other end", bendAt(g, 2), at(2, 70, 4));
        is("the last place", bendAt(g, 3), at(2, 70, 0));
        is("all corners", g.reach(2, 100, 20), 48);
    }

    /** "of each LADDER both ends"; "of like ones the least number". */
    private static void nodesOfLadders() {
        for (int turned = 0; turned < 2; turned++) {
            GroundKeeper g = halls();
            g.ladder(0, 10, turned == 0 ? 4 : 16, 1, 10, turned == 0 ? 4 : 16, 50);
            g.ladder(1, 10, turned == 0 ? 16 : 4, 0, 10, turned == 0 ? 16 : 4, 50);
            is("by two ladders alike", g.way(0, 10, 10, 1, 10, 10), 6000 + 50 + 6000);
            is("by the lesser number", bendAt(g, 1), at(0, 10, turned == 0 ? 4 : 16));
        }
        // From s a leg to A or a ladder to B, at one length; from these a leg or a ladder to t, at one length.
        for (int turned = 0; turned < 2; turned++) {
            GroundKeeper g = halls();
            g.door(0, 8, 10, 12, 10);
            g.shut(0, true);
            if (turned == 0) {
                g.ladder(0, 14, 10, 1, 1, 1, 1000000);
            } else {
                g.ladder(1, 1, 1, 0, 14, 10, 1000000);
            }
            g.ladder(0, 10, 7, 1, 1, 1, 5000);
            g.ladder(0, 10, 13, 1, 1, 1, 5000);
            is("by A or by B", g.way(0, 10, 7, 0, 10, 13), 10000);
            is("by the ladder's first end", bendAt(g, 1), turned == 0 ? at(0, 14, 10) : at(1, 1, 1));
        }
        GroundKeeper off = hall();
        off.door(0, 10, 0, 10, 18);
        off.shut(0, true);
        off.ladder(1, 50, 50, 0, 10, 19, 7);
        is("an end is one though the other is off the ground", off.way(0, 5, 19, 0, 15, 19), 10000);
        off.way(0, 5, 10, 0, 15, 10);
        is("there the way bends", bendAt(off, 1), at(0, 10, 19));
    }

    /** "then of each ROOM .., of each BOX .., of each LADDER": their numbers come in this order. */
    private static void nodesByKind() {
        GroundKeeper g = halls();
        g.box(0, 10, 12, 12, 20);
        g.ladder(0, 10, 8, 1, 5, 5, 100);
        g.ladder(0, 10, 12, 1, 5, 5, 100);
        is("by a ladder's end or a box's corner", g.way(0, 8, 10, 1, 5, 5), 2828 + 100);
        is("the box comes first", bendAt(g, 1), at(0, 10, 12));
        GroundKeeper h = halls();
        h.room(0, 6, 10, 8, 14);
        h.box(0, 12, 14, 14, 16);
        h.ladder(0, 12, 14, 1, 5, 5, 100);
        h.ladder(0, 8, 14, 1, 5, 5, 100);
        is("by a room's or a box's corner", h.way(0, 10, 14, 1, 5, 5), 2000 + 100);
        is("the room comes first", bendAt(h, 1), at(0, 8, 14));
    }

    /** "those that are not on the GROUND are left out (numbers are as if they were not)". */
    private static void nodesLeftOut() {
        GroundKeeper g = hall();
        g.box(0, 5, 5, 15, 15);
        is("by corner 1", g.way(0, 0, 0, 0, 20, 20), 2 * 15811);
        is("by it", bendAt(g, 1), at(0, 15, 5));
        g.box(0, 14, 4, 16, 6);
        is("corner 1 is inside another box: by corner 3", g.way(0, 0, 0, 0, 20, 20), 2 * 15811);
        is("by it", bendAt(g, 1), at(0, 5, 15));
        g.take(1);
        g.box(0, 4, 14, 6, 16);
        is("corner 3 is left out: by corner 1, its number is as it was", g.way(0, 0, 0, 0, 20, 20), 2 * 15811);
        is("by it", bendAt(g, 1), at(0, 15, 5));
        GroundKeeper edge = hall();
        edge.box(0, 5, 5, 15, 25);
        is("corners off the rooms are none", edge.way(0, 5, 20, 0, 15, 20), 15000 + 10000 + 15000);
        edge.room(0, 0, 20, 20, 25);
        is("on the ground they are", edge.way(0, 5, 20, 0, 15, 20), 5000 + 10000 + 5000);
        is("by the upper one", bendAt(edge, 1), at(0, 5, 25));
    }

    /** "STEPS are OPEN LEGS between NODES of a LEVEL". */
    private static void steps() {
        GroundKeeper g = halls();
        is("levels without a ladder", g.way(0, 5, 5, 1, 5, 5), NONE);
        is("one leg", g.way(0, 5, 5, 0, 9, 8), 5000);
        is("its two places", bendAt(g, 1), at(0, 9, 8));
        is("no third one", g.bend(2, 0), NONE);
        g.ledge(0, 7, 0, 7, 20, false);
        is("no leg over a ledge the wrong way", g.way(0, 5, 5, 0, 9, 8), NONE);
        is("but the other way", g.way(0, 9, 8, 0, 5, 5), 5000);
        g.door(0, 6, 0, 6, 20);
        g.shut(0, true);
        is("no leg over a shut door", g.way(0, 9, 8, 0, 5, 5), NONE);
        is("to a place of it", g.way(0, 9, 8, 0, 6, 8), NONE);
        is("from a place of it", g.way(0, 6, 8, 0, 5, 8), NONE);
        is("from it to itself", g.way(0, 6, 8, 0, 6, 8), NONE);
        is("beside it", g.way(0, 5, 5, 0, 5, 8), 3000);
    }

    /** "and LADDERS, both ways, between NODES at their ends, at their cost (the least, if there are several)". */
    private static void stepsByLadders() {
        GroundKeeper g = halls();
        g.ladder(0, 4, 4, 1, 6, 6, 300);
        is("up", g.way(0, 4, 4, 1, 6, 6), 300);
        is("down", g.way(1, 6, 6, 0, 4, 4), 300);
        g.ladder(0, 4, 4, 1, 6, 6, 301);
        is("a dearer one", g.way(0, 4, 4, 1, 6, 6), 300);
        g.ladder(1, 6, 6, 0, 4, 4, 299);
        is("a cheaper one, turned", g.way(0, 4, 4, 1, 6, 6), 299);
        is("a cheaper one, down", g.way(1, 6, 6, 0, 4, 4), 299);
        is("beside its end", g.way(0, 4, 5, 1, 6, 6), 1299);
        is("ends turned about are no ends", g.way(0, 6, 6, 1, 4, 4), 2828 + 299 + 2828);
        g.ladder(0, 4, 4, 2, 6, 6, 5);
        is("to the level told", g.way(0, 4, 4, 2, 6, 6), 5);
        is("and over it to another", g.way(1, 6, 6, 2, 6, 6), 299 + 5);
        g.door(0, 0, 4, 20, 4);
        g.shut(0, true);
        is("a shut door holds no one on a ladder", g.way(1, 6, 6, 2, 6, 6), 299 + 5);
        is("nor one who comes by it", g.way(2, 6, 6, 0, 4, 4), 5);
        is("but legs from there", g.way(2, 6, 6, 0, 4, 5), NONE);
        g.box(0, 3, 3, 5, 5);
        is("an end off the ground is no node", g.way(1, 6, 6, 2, 6, 6), NONE);
    }

    /** "WAYS are rows of STEPS; their LENGTH is all together." */
    private static void wayIsAllTogether() {
        GroundKeeper g = hall();
        is("one leg", g.way(0, 0, 0, 0, 5, 5), 7071);
        g.ladder(0, 2, 2, 1, 0, 0, 1);
        is("two legs, each of them made whole", g.way(0, 0, 0, 0, 5, 5), 2828 + 4242);
        is("that is less, so it is the way", bendAt(g, 1), at(0, 2, 2));
        g.ladder(0, 1, 1, 1, 0, 0, 1);
        is("a like one by 1, 1 is settled first", g.way(0, 0, 0, 0, 5, 5), 7070);
        is("so t has its length from there", bendAt(g, 1) * 10 + bendAt(g, 2), at(0, 1, 1) * 10 + at(0, 5, 5));
    }

    /** "then always the one that is not with the least LENGTH, of like ones the least number". */
    private static void settledByLength() {
        GroundKeeper g = halls();
        g.ladder(0, 10, 10, 1, 2, 5, 2000);
        g.ladder(0, 10, 10, 1, 7, 5, 1000);
        is("two of like length", g.way(0, 10, 10, 1, 4, 5), 4000);
        is("the nearer one is settled first, though its number is greater", bendAt(g, 1), at(1, 7, 5));
        GroundKeeper h = halls();
        h.ladder(0, 10, 10, 1, 2, 5, 1000);
        h.ladder(0, 10, 10, 1, 6, 5, 1000);
        is("two of like length, alike in all", h.way(0, 10, 10, 1, 4, 5), 3000);
        is("the least number", bendAt(h, 1), at(1, 2, 5));
    }

    /** "if they had none, or a greater one". */
    private static void likeLengthsStay() {
        GroundKeeper g = hall();
        g.box(0, 5, 5, 10, 10);
        is("straight along an edge, over two corners", g.way(0, 0, 5, 0, 20, 5), 20000);
        is("t has its length from s", bendAt(g, 1), at(0, 20, 5));
        is("no corner is on it", g.bend(2, 0), NONE);
        GroundKeeper h = halls();
        h.ladder(0, 10, 10, 1, 10, 10, 9000);
        h.ladder(0, 10, 14, 1, 10, 10, 4999);
        is("a greater one gives way", h.way(0, 10, 10, 1, 10, 10), 8999);
        is("to the lesser one", bendAt(h, 1), at(0, 10, 14));
        GroundKeeper like = halls();
        like.ladder(0, 10, 10, 1, 10, 10, 9000);
        like.ladder(0, 10, 14, 1, 10, 10, 5000);
        is("a like one does not", like.way(0, 10, 10, 1, 10, 10), 9000);
        is("it stays", bendAt(like, 1), at(1, 10, 10));
    }

    /** "read back from t by the NODES from which each got its LENGTH"; "PLACE i (0 where it begins)"; "NONE: not so many". */
    private static void readBack() {
        GroundKeeper g = hall();
        g.room(1, 0, 0, 20, 20);
        g.box(0, 5, 0, 6, 19);
        g.ladder(0, 12, 5, 1, 3, 3, 10);
        is("by corners and a ladder", g.way(0, 0, 19, 1, 3, 8), 6000 + 15231 + 10 + 5000);
        int[] places = {at(0, 0, 19), at(0, 6, 19), at(0, 12, 5), at(1, 3, 3), at(1, 3, 8)};
        for (int i = 0; i < places.length; i++) {
            is("place " + i, bendAt(g, i), places[i]);
        }
        for (int what = 0; what < 3; what++) {
            is("not so many", g.bend(5, what), NONE);
            is("far from so many", g.bend(MOST, what), NONE);
            is("below 0", g.bend(-1, what), BAD);
            is("far below 0", g.bend(LEAST, what), BAD);
        }
        for (int what : new int[] {LEAST, -1, 3, MOST}) {
            is("what " + what, g.bend(0, what), BAD);
            is("what " + what + " where there is no place", g.bend(5, what), BAD);
        }
        g.way(0, 1, 1, 0, 2, 2);
        is("a shorter way leaves nothing of a longer one", g.bend(2, 0), NONE);
    }

    /** "There is none if t gets none"; "the latest WAY that way() found". */
    private static void noWay() {
        GroundKeeper g = hall();
        is("no way was found yet", g.bend(0, 0), NONE);
        g.room(0, 21, 0, 40, 20);
        is("none over a gap", g.way(0, 5, 5, 0, 30, 5), NONE);
        is("nor is one kept", g.bend(0, 0), NONE);
        is("one on either side", g.way(0, 21, 5, 0, 30, 5), 9000);
        is("none again", g.way(0, 5, 5, 0, 30, 5), NONE);
        is("no place on the ground", g.way(0, 5, 5, 0, 50, 5), NO);
        is("no place at all", g.way(0, 5, 5, 0, 500, 5), BAD);
        is("the latest that was found stays", bendAt(g, 0), at(0, 21, 5));
        g.room(0, 20, 5, 21, 6);
        is("the gap is bridged", g.way(0, 5, 5, 0, 30, 5), 25000);
        is("it is the latest now", bendAt(g, 0), at(0, 5, 5));
    }

    /** "WALKERS 0 .. 5, as they come, stand on PLACES of the GROUND"; "on a SHUT DOOR, or another one stands there; FULL: 6." */
    private static void walkersAsTheyCome() {
        GroundKeeper g = halls();
        g.box(0, 5, 5, 9, 9);
        g.door(0, 12, 5, 12, 9);
        is("inside a box", g.walker(0, 6, 8), NO);
        is("beyond the room", g.walker(0, 20, 21), NO);
        is("on a box's corner", g.walker(0, 9, 9), 0);
        is("there again", g.walker(0, 9, 9), NO);
        is("there, a level higher", g.walker(1, 9, 9), 1);
        is("on an open door", g.walker(0, 12, 5), 2);
        g.go(2, 0, 13, 5);
        is("where one stands who is told to go", g.walker(0, 12, 5), NO);
        is("where one is told to go", g.walker(0, 13, 5), 3);
        g.go(2, 0, 14, 5);
        g.tick(1);
        g.shut(0, true);
        is("on a shut door", g.walker(0, 12, 5) + g.walker(0, 12, 7) + g.walker(0, 12, 9), 3 * NO);
        is("beyond its ends", g.walker(0, 12, 4), 4);
        is("at its place a level higher", g.walker(1, 12, 7), 5);
        is("six of them", g.count(6), 6);
        is("the seventh", g.walker(2, 3, 3), FULL);
        is("the seventh where one stands", g.walker(0, 9, 9), NO);
        is("the seventh beyond the level", g.walker(2, 3, 101), BAD);
        is("walker 5 is one", g.about(5, 2), 1);
        is("walker 6 is none", g.about(6, 2), BAD);
    }

    /** "a row of PLACES ahead of it (a WAY's NODES behind the first one)". */
    private static void rowAhead() {
        GroundKeeper g = hall();
        g.box(0, 5, 0, 6, 19);
        g.walker(0, 0, 10);
        is("none ahead", g.about(0, 3), 0);
        is("how many", g.go(0, 0, 20, 10), 3);
        is("so many are ahead", g.about(0, 3), 3);
        is("as the way has behind its first place", g.way(0, 0, 10, 0, 20, 10), 10295 + 1000 + 16643);
        for (int i = 1; i <= 3; i++) {
            is("one goes", g.tick(1), i < 3 ? 1 : 0);
            is("to place " + i + " of it", standsAt(g, 0), bendAt(g, i));
            is("so many are left", g.about(0, 3), 3 - i);
        }
        is("to where it stands: one place", g.go(0, 0, 20, 10), 1);
        is("that is a step", g.tick(1), 0);
        is("the fourth", g.about(0, 6), 4);
        is("of no length", g.about(0, 7), 10295 + 1000 + 16643);
    }

    /** "EACH TICK each WALKER, by numbers". */
    private static void byNumbers() {
        GroundKeeper g = hall();
        g.walker(0, 5, 5);
        g.walker(0, 6, 5);
        g.walker(0, 7, 5);
        for (int i = 0; i < 3; i++) {
            g.go(i, 0, 6 + i, 5);
        }
        is("each is before the next: two wait", g.tick(1), 2);
        is("the last one went", standsAt(g, 2), at(0, 8, 5));
        is("then the next", g.tick(1), 1);
        is("then the first", g.tick(1), 0);
        for (int i = 0; i < 3; i++) {
            g.go(i, 0, 5 + i, 5);
        }
        is("each is behind the next: all go at once", g.tick(1), 0);
        is("where they were", g.about(0, 0) * 100 + g.about(1, 0) * 10 + g.about(2, 0), 567);
        g.go(0, 0, 6, 5);
        g.go(1, 0, 5, 5);
        is("each before the other: none goes", g.tick(2), 2);
        is("both wait", g.about(0, 4) + g.about(1, 4), 4);
    }

    /** "if the STEP to the first of them is OPEN still (a LEG OPEN)". */
    private static void stillOpen() {
        GroundKeeper door = hall();
        door.door(0, 10, 0, 10, 20);
        door.walker(0, 5, 5);
        door.go(0, 0, 15, 5);
        door.shut(0, true);
        is("a door was shut", door.tick(1), 1);
        door.shut(0, false);
        is("it was opened", door.tick(1), 0);
        GroundKeeper box = hall();
        box.walker(0, 5, 5);
        box.go(0, 0, 15, 5);
        box.box(0, 8, 4, 9, 6);
        is("a box is in the way", box.tick(1), 1);
        box.take(0);
        box.box(0, 8, 5, 9, 6);
        is("a box is beside the way", box.tick(1), 0);
        GroundKeeper ledge = hall();
        ledge.walker(0, 5, 5);
        ledge.go(0, 0, 15, 5);
        ledge.ledge(0, 10, 0, 10, 5, true);
        is("a ledge that lets one pass", ledge.tick(1), 0);
        ledge.go(0, 0, 5, 6);
        ledge.ledge(0, 10, 5, 10, 20, true);
        is("one that does not", ledge.tick(1), 1);
        is("so it waits", ledge.about(0, 4), 1);
        GroundKeeper end = hall();
        end.walker(0, 5, 5);
        end.go(0, 0, 15, 5);
        end.box(0, 14, 4, 16, 6);
        is("a box on its last place", end.tick(1), 1);
    }

    /** "or a LADDER between just these, its other end on the GROUND". */
    private static void ladderStillOpen() {
        GroundKeeper g = halls();
        g.ladder(0, 5, 5, 1, 5, 5, 60);
        g.walker(0, 5, 5);
        g.go(0, 1, 5, 5);
        g.box(1, 4, 4, 6, 6);
        is("a box on the other end", g.tick(1), 1);
        is("it waits", g.about(0, 4), 1);
        g.take(0);
        g.box(1, 5, 4, 6, 6);
        is("on the box's edge the other end is on the ground", g.tick(1), 0);
        is("it is up", standsAt(g, 0), at(1, 5, 5));
        is("its length is the cost", g.about(0, 7), 60);
        g.door(0, 0, 5, 20, 5);
        g.ledge(0, 0, 5, 20, 5, true);
        g.shut(0, true);
        g.go(0, 0, 5, 5);
        g.ladder(0, 5, 5, 1, 5, 5, 59);
        is("neither a door nor a ledge is in a ladder's way", g.tick(1), 0);
        is("it is down, by the cheaper one", g.about(0, 7), 60 + 59);
    }

    /** "and no other WALKER stands there, it goes there at once". */
    private static void noOtherStandsThere() {
        GroundKeeper g = halls();
        g.walker(0, 0, 5);
        g.walker(0, 10, 5);
        g.walker(1, 20, 5);
        g.go(0, 0, 20, 5);
        is("past another one, to where one stands a level higher", g.tick(1), 0);
        is("at once", standsAt(g, 0), at(0, 20, 5));
        g.go(0, 0, 10, 5);
        is("to where one stands", g.tick(1), 1);
        is("it waits", g.about(0, 4), 1);
        g.go(1, 0, 10, 5);
        is("one goes to where it stands itself", g.tick(1), 1);
        is("it does not wait for itself", g.about(1, 6) * 10 + g.about(1, 4), 10);
    }

    /** "at the third time without a step between (they count anew then)". */
    private static void thirdTime() {
        GroundKeeper g = hall();
        g.walker(0, 0, 0);
        g.walker(0, 10, 10);
        g.go(0, 0, 10, 10);
        int[] waits = {1, 2, 0, 1, 2, 0, 1};
        for (int i = 0; i < waits.length; i++) {
            is("it has a place ahead", g.tick(1), 1);
            is("waited, tick " + i, g.about(0, 4), waits[i]);
            is("looked, tick " + i, g.about(0, 8), (i + 1) / 3);
        }
        g.go(1, 0, 10, 11);
        g.tick(1);
        is("it waits once more, for it comes first", g.about(0, 4), 2);
        g.go(1, 0, 10, 10);
        g.tick(1);
        is("it went now", standsAt(g, 0), at(0, 10, 10));
        is("a step lets them count anew", g.about(0, 4), 0);
        is("the other one waits", g.about(1, 4), 1);
        g.go(0, 0, 0, 0);
        g.tick(1);
        is("the other one went behind it", g.about(1, 4), 0);
        g.go(0, 0, 10, 10);
        g.tick(2);
        g.go(1, 0, 10, 12);
        g.go(0, 0, 10, 10);
        is("told anew it has waited as often", g.about(0, 4), 2);
        is("and looks at the third time", g.tick(1), 1);
        is("that was the third look", g.about(0, 8), 3);
        is("then it goes", g.tick(1), 0);
        GroundKeeper two = hall();
        two.door(0, 5, 0, 5, 20);
        two.walker(0, 0, 0);
        for (int i = 0; i < 4; i++) {
            two.go(0, 0, i % 2 == 0 ? 10 : 0, 0);
            two.shut(0, true);
            is("twice", two.tick(2), 1);
            two.shut(0, false);
            is("and a step between", two.tick(1), 0);
        }
        is("it never looked", two.about(0, 8), 0);
        is("its steps", two.about(0, 6), 4);
    }

    /** "it looks for a WAY anew from where it stands to its last PLACE"; "that is its row then". */
    private static void looksFromWhereItStands() {
        GroundKeeper g = new GroundKeeper();
        g.room(0, 5, 5, 25, 25);
        g.box(0, 10, 0, 11, 20);
        g.box(0, 17, 10, 18, 30);
        g.walker(0, 5, 5);
        is("over one box and under the other", g.go(0, 0, 25, 25), 5);
        g.tick(2);
        is("between the boxes", standsAt(g, 0), at(0, 11, 20));
        g.box(0, 10, 14, 18, 15);
        is("a box is between it and the next place", g.tick(2), 1);
        is("its row is as it was", g.about(0, 3), 3);
        is("at the third time it looks", g.tick(1), 0);
        is("it is closed in: stuck", g.about(0, 5), 1);
        GroundKeeper h = hall();
        h.walker(0, 0, 10);
        h.go(0, 0, 20, 10);
        h.box(0, 8, 5, 12, 20);
        is("a box is in its way", h.tick(3), 1);
        is("a row of three now", h.about(0, 3), 3);
        is("it has not gone yet", standsAt(h, 0), at(0, 0, 10));
        h.tick(1);
        is("to the first corner", standsAt(h, 0), at(0, 8, 5));
        h.take(0);
        is("the row is kept, though there is a shorter way", h.tick(1), 1);
        is("to the second corner", standsAt(h, 0), at(0, 12, 5));
        is("to the last place", h.tick(1), 0);
        is("it looked once", h.about(0, 8), 1);
        is("what it went", h.about(0, 7), 9433 + 4000 + 9433);
    }

    /** "with PLACES where others stand left out (but its last one)". */
    private static void othersLeftOut() {
        GroundKeeper box = hall();
        box.box(0, 5, 5, 15, 15);
        box.walker(0, 0, 0);
        box.walker(0, 15, 5);
        box.go(0, 0, 20, 20);
        box.tick(4);
        is("a box's corner: it goes by the other one", standsAt(box, 0), at(0, 5, 15));
        GroundKeeper ladder = halls();
        ladder.ladder(0, 8, 10, 1, 8, 10, 5);
        ladder.ladder(0, 18, 10, 1, 18, 10, 5);
        ladder.walker(0, 7, 10);
        ladder.walker(1, 8, 10);
        is("by the near ladder", ladder.go(0, 1, 9, 10), 3);
        is("it waits on the ladder", ladder.tick(4), 1);
        is("its row by the far one", ladder.about(0, 3), 3);
        ladder.tick(2);
        is("a ladder's end: it goes by the other one", standsAt(ladder, 0), at(1, 18, 10));
        GroundKeeper room = new GroundKeeper();
        room.room(0, 0, 0, 5, 20);
        room.room(0, 15, 0, 20, 20);
        room.room(0, 5, 0, 15, 5);
        room.room(0, 5, 15, 15, 20);
        room.walker(0, 0, 10);
        room.walker(0, 5, 5);
        room.go(0, 0, 20, 10);
        room.tick(4);
        is("a room's corner: it goes by the other one", standsAt(room, 0), at(0, 5, 15));
        GroundKeeper last = hall();
        last.box(0, 5, 5, 15, 15);
        last.walker(0, 0, 0);
        last.walker(0, 15, 5);
        last.go(0, 0, 15, 5);
        is("its last place is not left out", last.tick(3), 1);
        is("it is not stuck", last.about(0, 5), 0);
        is("it has a row", last.about(0, 3), 1);
        last.go(0, 0, 20, 10);
        last.tick(3);
        is("now that place is not its last one", last.about(0, 3), 2);
        last.tick(1);
        is("so it goes around, by a corner of the hall", standsAt(last, 0), at(0, 20, 0));
        GroundKeeper self = hall();
        self.box(0, 5, 5, 15, 15);
        self.walker(0, 5, 5);
        self.walker(0, 15, 5);
        self.walker(0, 5, 15);
        self.go(0, 0, 16, 16);
        is("both corners are taken, and none is left but the hall's", self.tick(3), 1);
        is("by a corner of the hall", self.about(0, 3), 2);
        self.tick(1);
        is("the first of these", standsAt(self, 0), at(0, 20, 0));
        othersOfEachNumber();
        leftOutForALookAlone();
        GroundKeeper leg = hall();
        leg.box(0, 5, 5, 15, 15);
        leg.walker(0, 0, 0);
        leg.walker(0, 15, 5);
        leg.walker(0, 1, 3);
        leg.go(0, 0, 20, 20);
        leg.tick(4);
        is("one who stands on a leg is passed", standsAt(leg, 0), at(0, 5, 15));
    }

    private static void othersOfEachNumber() {
        for (int other = 0; other < 6; other++) {
            GroundKeeper g = hall();
            g.box(0, 5, 5, 15, 15);
            for (int i = 0; i < 6; i++) {
                g.walker(0, i == other ? 15 : i, i == other ? 5 : 0);
            }
            int goes = other == 0 ? 1 : 0;
            g.go(goes, 0, 20, 20);
            g.tick(4);
            is("it waited for walker " + other + ", and looked", g.about(goes, 8), 1);
            is("and went by the other corner", standsAt(g, goes), at(0, 5, 15));
        }
    }

    /** Walker 0 at 0, 0 has just looked for a way to 20, 20 anew, as walker 1 stands at 15, 5. */
    private static GroundKeeper looked() {
        GroundKeeper g = hall();
        g.box(0, 5, 5, 15, 15);
        g.walker(0, 0, 0);
        g.walker(0, 15, 5);
        g.go(0, 0, 20, 20);
        g.tick(3);
        return g;
    }

    /** Only one who looks anew leaves PLACES out: way(), reach() and go() do not, nor does the next look. */
    private static void leftOutForALookAlone() {
        GroundKeeper way = looked();
        is("it looked", way.about(0, 8), 1);
        is("way() leads by where one stands", way.way(0, 0, 0, 0, 20, 20), 2 * 15811);
        is("by its corner", bendAt(way, 1), at(0, 15, 5));
        GroundKeeper reach = looked();
        reach.room(0, 15, 5, 30, 10);
        reach.go(0, 0, 20, 20);
        reach.tick(3);
        is("reach() counts a corner where one stands", reach.reach(0, 0, 0), 8);
        GroundKeeper go = looked();
        is("go() leads", go.go(0, 0, 20, 20), 2);
        is("by where one stands", go.tick(1), 1);
        is("so it waits", go.about(0, 4), 1);
        GroundKeeper next = hall();
        next.box(0, 5, 5, 15, 15);
        next.door(0, 10, 4, 10, 6);
        next.door(0, 0, 3, 2, 3);
        next.walker(0, 15, 5);
        next.walker(0, 0, 0);
        next.go(1, 0, 20, 20);
        next.tick(2);
        next.go(0, 0, 5, 15);
        next.shut(0, true);
        next.tick(1);
        is("one looks while the other one stands at a corner", next.about(1, 8), 1);
        next.shut(0, false);
        next.shut(1, true);
        next.tick(2);
        is("it was held till the other one is at another corner", standsAt(next, 0), at(0, 5, 15));
        next.shut(1, false);
        next.tick(1);
        is("it looks a second time", next.about(1, 8), 2);
        next.tick(1);
        is("and goes by the corner that is free again", standsAt(next, 1), at(0, 15, 5));
    }

    /** "if there is none, its row is empty, and it is STUCK (till go() is told again)". */
    private static void stuck() {
        GroundKeeper g = hall();
        g.room(0, 30, 0, 40, 20);
        g.door(0, 10, 0, 10, 20);
        g.walker(0, 5, 5);
        g.go(0, 0, 15, 5);
        g.shut(0, true);
        is("twice is not enough", g.tick(2), 1);
        is("not stuck", g.about(0, 5), 0);
        is("the third time", g.tick(1), 0);
        is("stuck", g.about(0, 5), 1);
        is("its row is empty", g.about(0, 3), 0);
        is("they count anew", g.about(0, 4), 0);
        is("it looked", g.about(0, 8), 1);
        g.shut(0, false);
        is("it does not look again", g.tick(10), 0);
        is("nor wait", g.about(0, 4) + g.about(0, 8), 1);
        is("it stands", standsAt(g, 0), at(0, 5, 5));
        is("a bad go() tells it nothing", g.go(0, 0, 5, 101), BAD);
        is("nor does one that is no", g.go(0, 0, 25, 5), NO);
        is("stuck still", g.about(0, 5), 1);
        is("told again, and there is no way", g.go(0, 0, 35, 5), NONE);
        is("it is not stuck", g.about(0, 5), 0);
        g.go(0, 0, 15, 5);
        is("one who has a row is told where no way leads", g.go(0, 0, 35, 5), NONE);
        is("its row is empty", g.about(0, 3), 0);
        is("it stands", g.tick(2), 0);
        is("where it stood", standsAt(g, 0), at(0, 5, 5));
        g.go(0, 0, 15, 5);
        g.shut(0, true);
        g.tick(3);
        is("stuck again", g.about(0, 5), 1);
        is("told again", g.go(0, 0, 6, 5), 1);
        is("not stuck at once", g.about(0, 5), 0);
        is("it goes", g.tick(1), 0);
        is("it looked twice", g.about(0, 8), 2);
    }

    /** "If its last PLACE is reached its row is empty." */
    private static void lastPlaceReached() {
        GroundKeeper g = hall();
        g.walker(0, 0, 10);
        g.walker(0, 0, 1);
        g.box(0, 5, 0, 6, 19);
        is("three places ahead", g.go(0, 0, 10, 10), 3);
        is("one place ahead", g.go(1, 0, 0, 5), 1);
        is("one is there", g.tick(1), 1);
        is("its row", g.about(1, 3), 0);
        is("the other one's row", g.about(0, 3), 2);
        is("one before the last", g.tick(1), 1);
        is("its row", g.about(0, 3), 1);
        is("at the last", g.tick(1), 0);
        is("its row is empty", g.about(0, 3), 0);
        is("it is not stuck", g.about(0, 5), 0);
        long before = g.about(0, 6) * 1000000L + g.about(0, 7);
        is("it stands", g.tick(10), 0);
        is("and goes no more", g.about(0, 6) * 1000000L + g.about(0, 7), before);
    }

    /** "no one ever inside a box"; "NO: a WALKER would be INSIDE". */
    private static void noOneInsideABox() {
        GroundKeeper g = halls();
        g.walker(0, 10, 10);
        is("inside by one on each side", g.box(0, 9, 9, 11, 11), NO);
        is("inside by much", g.box(0, 0, 0, 100, 100), NO);
        is("none is down", g.count(1), 0);
        is("on its edges and corners", g.box(0, 10, 9, 11, 11) + g.box(0, 9, 9, 10, 11) + g.box(0, 9, 10, 11, 11) + g.box(0, 9, 9, 11, 10), 6);
        is("at its corner", g.box(0, 10, 10, 11, 11), 4);
        is("on other levels", g.box(1, 9, 9, 11, 11) + g.box(2, 9, 9, 11, 11), 11);
        is("inside again", g.box(0, 8, 9, 11, 11), NO);
        for (int i = 0; i < 7; i++) {
            g.take(i);
        }
        g.go(0, 0, 15, 15);
        is("one who is told to go is inside still", g.box(0, 9, 9, 11, 11), NO);
        is("where it is to go is free", g.box(0, 14, 14, 16, 16), 0);
        g.take(0);
        g.tick(1);
        is("it has gone", g.box(0, 9, 9, 11, 11), 0);
        is("now it is inside there", g.box(0, 14, 14, 16, 16), NO);
        is("one more inside where another one stands", g.walker(0, 10, 10), NO);
        GroundKeeper h = hall();
        h.walker(0, 4, 13);
        is("x and y are not alike", h.box(0, 3, 12, 5, 14), NO);
        is("by x alone it is inside", h.box(0, 3, 3, 5, 5), 0);
        is("by y alone it is inside", h.box(0, 12, 12, 14, 14), 1);
        h.walker(0, 16, 2);
        is("the second one is inside", h.box(0, 15, 1, 17, 3), NO);
    }

    /** "No ROOMS, no one." */
    private static void newObject() {
        GroundKeeper g = new GroundKeeper();
        for (int i = 0; i < 8; i++) {
            is("count " + i, g.count(i), 0);
        }
        for (int level = 0; level < 3; level++) {
            is("no ground", g.may(level, 0, 0) + g.may(level, 100, 100) + g.see(level, 0, 0, 0, 0), 0);
            is("no place to stand", g.walker(level, 0, 0), NO);
            is("no place to reach", g.reach(level, 0, 0), NO);
            is("no way", g.way(level, 0, 0, level, 0, 0), NO);
        }
        is("no way was found", g.bend(0, 0), NONE);
        is("no box is down", g.take(0), NO);
        is("no door", g.shut(0, true), BAD);
        is("no one", g.about(0, 0), BAD);
        is("no one to go", g.go(0, 0, 0, 0), BAD);
        is("no one has a place ahead", g.tick(10), 0);
        GroundKeeper other = hall();
        other.walker(0, 1, 1);
        is("objects know nothing of one another", g.may(0, 1, 1) + g.count(0) + g.count(6), 0);
    }

    private static void numbers(String what, IntUnaryOperator call, int[] wrong, int[] good) {
        for (int number : wrong) {
            is(what + " " + number, call.applyAsInt(number), BAD);
        }
        for (int number : good) {
            DUE.holds(what + " " + number + " is as told", call.applyAsInt(number) != BAD);
        }
    }

    /** The first and the last number that each call takes: boxes, doors, walkers, ticks, what. */
    private static void firstNumbersAndLast() {
        GroundKeeper g = halls();
        for (int i = 0; i < 6; i++) {
            numbers("a door that has come", d -> g.shut(d, false), new int[] {LEAST, -1, i, 6, MOST}, new int[0]);
            g.door(0, i, 0, i, 1);
            numbers("a door that has come", d -> g.shut(d, false), new int[0], new int[] {0, i});
            numbers("a walker to go", w -> g.go(w, 0, 5, 5), new int[] {LEAST, -1, i, 6, MOST}, new int[0]);
            numbers("a walker to tell about", w -> g.about(w, 3), new int[] {LEAST, -1, i, 6, MOST}, new int[0]);
            g.walker(1, i, 0);
            numbers("a walker to go", w -> g.go(w, 1, w, 0), new int[0], new int[] {0, i});
            numbers("a walker to tell about", w -> g.about(w, 3), new int[0], new int[] {0, i});
        }
        numbers("take", g::take, new int[] {LEAST, -1, 8, MOST}, new int[] {0, 7});
        numbers("tick", g::tick, new int[] {LEAST, -1, 0, 11, MOST}, new int[] {1, 10});
        is("ticks", g.count(7), 11);
        numbers("about, what", what -> g.about(5, what), new int[] {LEAST, -1, 9, MOST}, new int[] {0, 8});
        numbers("count, what", g::count, new int[] {LEAST, -1, 8, MOST}, new int[] {0, 7});
    }

    /** What is named of see(), reach(), count() and digest() beside the above. */
    private static void sayings() {
        GroundKeeper g = hall();
        g.ledge(0, 12, 0, 12, 20, false);
        g.door(0, 6, 0, 6, 20);
        is("a ledge alone", g.see(0, 0, 5, 20, 5), -11);
        g.shut(0, true);
        is("a door is told before a ledge", g.see(0, 0, 5, 20, 5), -10);
        g.box(0, 15, 4, 16, 6);
        is("the ground is told before both", g.see(0, 0, 5, 20, 5), 0);
        is("corners of like places are counted each", reachOfTwins(), 8);
        is("a corner inside a box is not counted", reachWithCornerInBox(), 3 + 4);
        is("a digest of nothing", new GroundKeeper().digest(), 75907302332249L);
        GroundKeeper wraps = hall();
        for (int i = 0; i < 6; i++) {
            wraps.walker(0, i, 0);
        }
        long h = 89;
        for (int what = 0; what < 8; what++) {
            h = 31 * h + wraps.count(what);
        }
        for (int walker = 0; walker < 6; walker++) {
            for (int what = 0; what < 9; what++) {
                h = 31 * h + wraps.about(walker, what);
            }
        }
        is("a digest of six walkers, wrapped around", wraps.digest(), h);
    }

    private static int reachOfTwins() {
        GroundKeeper g = hall();
        g.room(0, 0, 0, 20, 20);
        return g.reach(0, 0, 0);
    }

    private static int reachWithCornerInBox() {
        GroundKeeper g = hall();
        g.room(0, 10, 10, 30, 30);
        g.box(0, 18, 18, 22, 22);
        return g.reach(0, 1, 1);
    }
}
