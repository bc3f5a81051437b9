/** Each promise of the document with ordinary inputs, the edges that it names, and wrong inputs. */
public final class PromiseTest {
    private static final int NONE = -1, BAD = -2, NO = -3, FULL = -4;
    private static final int[] NOT_LEVELS = {-1, 3, Integer.MAX_VALUE, Integer.MIN_VALUE};
    private static final int[] NOT_WHERE = {-1, 101, Integer.MAX_VALUE, Integer.MIN_VALUE};
    private static final Due DUE = new Due();

    public static void main(String[] args) {
        constants();
        newObject();
        room();
        box();
        boxKeepsWalkersOut();
        take();
        door();
        shut();
        ledge();
        ladder();
        may();
        seeGround();
        seeBoxes();
        seeDoors();
        seeLedges();
        seeOrder();
        way();
        wayTies();
        wayNodes();
        wayLadders();
        wayLengths();
        bend();
        reach();
        walker();
        go();
        tickSteps();
        tickWaits();
        tickGoesAround();
        tickStuck();
        tickLadders();
        about();
        count();
        digest();
        refusalsChangeNothing();
        fullObject();
        DUE.end();
    }

    private static void is(String what, long got, long want) {
        DUE.is(what, got, want);
    }

    /** A hall on level 0 from 0, 0 to 20, 20. */
    private static GroundKeeper hall() {
        GroundKeeper g = new GroundKeeper();
        g.room(0, 0, 0, 20, 20);
        return g;
    }

    private static void constants() {
        is("NONE", GroundKeeper.NONE, NONE);
        is("BAD", GroundKeeper.BAD, BAD);
        is("NO", GroundKeeper.NO, NO);
        is("FULL", GroundKeeper.FULL, FULL);
    }

    private static void newObject() {
        GroundKeeper g = new GroundKeeper();
        for (int i = 0; i < 8; i++) {
            is("1: count(" + i + ")", g.count(i), 0);
        }
        is("1: may", g.may(0, 0, 0), 0);
        is("1: about", g.about(0, 0), BAD);
        is("1: bend", g.bend(0, 0), NONE);
        is("1: reach", g.reach(0, 0, 0), NO);
        is("1: tick", g.tick(1), 0);
    }

    private static void room() {
        GroundKeeper g = new GroundKeeper();
        for (int bad : NOT_LEVELS) {
            is("2: level " + bad, g.room(bad, 0, 0, 1, 1), BAD);
        }
        for (int bad : NOT_WHERE) {
            is("2: x0 " + bad, g.room(0, bad, 0, 1, 1), BAD);
            is("2: y0 " + bad, g.room(0, 0, bad, 1, 1), BAD);
            is("2: x1 " + bad, g.room(0, 0, 0, bad, 1), BAD);
            is("2: y1 " + bad, g.room(0, 0, 0, 1, bad), BAD);
        }
        is("2: no breadth", g.room(0, 5, 0, 5, 1), BAD);
        is("2: no height", g.room(0, 0, 5, 1, 5), BAD);
        is("2: x turned", g.room(0, 5, 0, 4, 1), BAD);
        is("2: y turned", g.room(0, 0, 5, 1, 4), BAD);
        for (int i = 0; i < 12; i++) {
            is("2: room " + i, g.room(i % 3, 0, 0, 100, 100), i);
        }
        is("2: a bad one of too many", g.room(0, 0, 0, 0, 1), BAD);
        is("2: one too many", g.room(0, 0, 0, 1, 1), FULL);
        is("2: rooms", g.count(0), 12);
    }

    private static void box() {
        GroundKeeper g = hall();
        for (int bad : NOT_LEVELS) {
            is("3: level " + bad, g.box(bad, 0, 0, 1, 1), BAD);
        }
        for (int bad : NOT_WHERE) {
            is("3: x0 " + bad, g.box(0, bad, 0, 1, 1), BAD);
            is("3: y0 " + bad, g.box(0, 0, bad, 1, 1), BAD);
            is("3: x1 " + bad, g.box(0, 0, 0, bad, 1), BAD);
            is("3: y1 " + bad, g.box(0, 0, 0, 1, bad), BAD);
        }
        is("3: no breadth", g.box(0, 5, 0, 5, 1), BAD);
        is("3: no height", g.box(0, 0, 5, 1, 5), BAD);
        is("3: turned", g.box(0, 5, 0, 4, 1), BAD);
        for (int i = 0; i < 8; i++) {
            is("3: box " + i, g.box(0, 2 * i, 0, 2 * i + 2, 2), i);
        }
        is("3: inside", g.may(0, 1, 1), 0);
        is("3: on the edge of two", g.may(0, 2, 1), 1);
        is("3: one too many", g.box(0, 0, 0, 1, 1), FULL);
        is("3: taken up", g.take(5), 1);
        is("3: taken up", g.take(3), 1);
        is("3: the least that is not down", g.box(0, 10, 10, 14, 14), 3);
        is("3: where it is now", g.may(0, 11, 11), 0);
        is("3: where it was", g.may(0, 7, 1), 1);
        is("3: the next", g.box(0, 10, 10, 14, 14), 5);
    }

    private static void boxKeepsWalkersOut() {
        GroundKeeper g = hall();
        g.walker(0, 5, 5);
        is("3: a walker inside", g.box(0, 4, 4, 6, 6), NO);
        is("3: nothing set down", g.count(1), 0);
        is("3: it stands on an edge", g.box(0, 5, 4, 7, 6), 0);
        is("3: it stands at a corner", g.box(0, 3, 5, 5, 7), 1);
        is("3: it is on another level", g.box(1, 4, 4, 6, 6), 2);
        is("3: it stands on the edge of x1", g.box(0, 4, 4, 5, 6), 3);
        is("3: it stands on the edge of y0", g.box(0, 4, 5, 6, 6), 4);
        is("3: it stands on the edge of y1", g.box(0, 4, 4, 6, 5), 5);
        for (int i = 6; i < 8; i++) {
            is("3: box " + i, g.box(2, 0, 0, 1, 1), i);
        }
        is("3: no comes before full", g.box(0, 4, 4, 6, 6), NO);
        is("3: bad comes before no", g.box(0, 4, 4, 6, 101), BAD);
        is("3: full", g.box(0, 8, 8, 9, 9), FULL);
    }

    private static void take() {
        GroundKeeper g = hall();
        is("4: below", g.take(-1), BAD);
        is("4: above", g.take(8), BAD);
        is("4: far", g.take(Integer.MAX_VALUE), BAD);
        is("4: far below", g.take(Integer.MIN_VALUE), BAD);
        is("4: never down", g.take(7), NO);
        is("4: set down", g.box(0, 1, 1, 3, 3), 0);
        is("4: inside", g.may(0, 2, 2), 0);
        is("4: taken", g.take(0), 1);
        is("4: ground again", g.may(0, 2, 2), 1);
        is("4: taken twice", g.take(0), NO);
    }

    private static void door() {
        GroundKeeper g = hall();
        for (int bad : NOT_LEVELS) {
            is("5: level " + bad, g.door(bad, 0, 0, 0, 1), BAD);
        }
        for (int bad : NOT_WHERE) {
            is("5: x0 " + bad, g.door(0, bad, 0, 1, 0), BAD);
            is("5: y0 " + bad, g.door(0, 0, bad, 0, 1), BAD);
            is("5: x1 " + bad, g.door(0, 0, 0, bad, 0), BAD);
            is("5: y1 " + bad, g.door(0, 0, 0, 0, bad), BAD);
        }
        is("5: one place", g.door(0, 3, 3, 3, 3), BAD);
        is("5: slanting", g.door(0, 3, 3, 4, 4), BAD);
        is("5: along y", g.door(0, 10, 0, 10, 20), 0);
        is("5: it is open", g.see(0, 0, 5, 20, 5), 1);
        is("5: none is shut", g.count(3), 0);
        is("5: along x, backwards", g.door(0, 20, 10, 0, 10), 1);
        for (int i = 2; i < 6; i++) {
            is("5: door " + i, g.door(2, 0, 0, 0, 1), i);
        }
        is("5: bad before full", g.door(0, 3, 3, 3, 3), BAD);
        is("5: full", g.door(0, 0, 0, 0, 1), FULL);
        is("5: doors", g.count(2), 6);
    }

    private static void shut() {
        GroundKeeper g = hall();
        g.room(1, 0, 0, 20, 20);
        is("6: none yet", g.shut(0, true), BAD);
        g.door(0, 10, 5, 10, 0);
        is("6: below", g.shut(-1, true), BAD);
        is("6: not so many", g.shut(1, true), BAD);
        is("6: far", g.shut(Integer.MAX_VALUE, false), BAD);
        is("6: it is open", g.shut(0, false), NO);
        is("6: shut", g.shut(0, true), 1);
        is("6: shut twice", g.shut(0, true), NO);
        is("6: shut now", g.see(0, 0, 3, 20, 3), -10);
        is("6: opened", g.shut(0, false), 1);
        is("6: open now", g.see(0, 0, 3, 20, 3), 1);
        is("6: one beside it", g.walker(0, 10, 6), 0);
        is("6: one on another level", g.walker(1, 10, 2), 1);
        is("6: they do not hinder", g.shut(0, true), 1);
        is("6: opened", g.shut(0, false), 1);
        is("6: one at its end", g.walker(0, 10, 5), 2);
        is("6: it hinders", g.shut(0, true), NO);
        is("6: doors shut", g.count(3), 0);
    }

    private static void ledge() {
        GroundKeeper g = hall();
        for (int bad : NOT_LEVELS) {
            is("7: level " + bad, g.ledge(bad, 0, 0, 0, 1, true), BAD);
        }
        for (int bad : NOT_WHERE) {
            is("7: x0 " + bad, g.ledge(0, bad, 0, 1, 0, true), BAD);
            is("7: y0 " + bad, g.ledge(0, 0, bad, 0, 1, false), BAD);
            is("7: x1 " + bad, g.ledge(0, 0, 0, bad, 0, true), BAD);
            is("7: y1 " + bad, g.ledge(0, 0, 0, 0, bad, false), BAD);
        }
        is("7: one place", g.ledge(0, 3, 3, 3, 3, true), BAD);
        is("7: slanting", g.ledge(0, 3, 3, 4, 4, true), BAD);
        for (int i = 0; i < 6; i++) {
            is("7: ledge " + i, g.ledge(i % 3, 9, 9, i % 2 == 0 ? 9 : 0, i % 2 == 0 ? 0 : 9, true), i);
        }
        is("7: bad before full", g.ledge(0, 3, 3, 3, 3, true), BAD);
        is("7: full", g.ledge(0, 0, 0, 0, 1, true), FULL);
        is("7: ledges", g.count(4), 6);
    }

    private static void ladder() {
        GroundKeeper g = new GroundKeeper();
        for (int bad : NOT_LEVELS) {
            is("8: level " + bad, g.ladder(bad, 0, 0, 1, 0, 0, 5), BAD);
            is("8: other " + bad, g.ladder(1, 0, 0, bad, 0, 0, 5), BAD);
        }
        for (int bad : NOT_WHERE) {
            is("8: x " + bad, g.ladder(0, bad, 0, 1, 0, 0, 5), BAD);
            is("8: y " + bad, g.ladder(0, 0, bad, 1, 0, 0, 5), BAD);
            is("8: ox " + bad, g.ladder(0, 0, 0, 1, bad, 0, 5), BAD);
            is("8: oy " + bad, g.ladder(0, 0, 0, 1, 0, bad, 5), BAD);
        }
        is("8: one level", g.ladder(1, 0, 0, 1, 5, 5, 5), BAD);
        is("8: cost below", g.ladder(0, 0, 0, 1, 5, 5, -1), BAD);
        is("8: cost above", g.ladder(0, 0, 0, 1, 5, 5, 1000001), BAD);
        is("8: the least cost, off the ground", g.ladder(0, 0, 0, 1, 5, 5, 0), 0);
        is("8: the greatest cost, the same ends", g.ladder(0, 0, 0, 1, 5, 5, 1000000), 1);
        for (int i = 2; i < 6; i++) {
            is("8: ladder " + i, g.ladder(2, 100, 100, 0, 0, 0, 7), i);
        }
        is("8: bad before full", g.ladder(0, 0, 0, 0, 1, 1, 1), BAD);
        is("8: full", g.ladder(0, 0, 0, 1, 1, 1, 1), FULL);
        is("8: ladders", g.count(5), 6);
    }

    private static void may() {
        GroundKeeper g = new GroundKeeper();
        g.room(1, 10, 10, 20, 20);
        for (int bad : NOT_LEVELS) {
            is("9: level " + bad, g.may(bad, 0, 0), BAD);
        }
        for (int bad : NOT_WHERE) {
            is("9: x " + bad, g.may(0, bad, 0), BAD);
            is("9: y " + bad, g.may(0, 0, bad), BAD);
        }
        is("9: within", g.may(1, 15, 15), 1);
        is("9: a corner", g.may(1, 10, 10), 1);
        is("9: another corner", g.may(1, 20, 20), 1);
        is("9: beyond x0", g.may(1, 9, 15), 0);
        is("9: beyond x1", g.may(1, 21, 15), 0);
        is("9: beyond y0", g.may(1, 15, 9), 0);
        is("9: beyond y1", g.may(1, 15, 21), 0);
        is("9: another level", g.may(0, 15, 15), 0);
        is("9: the farthest place", g.may(2, 100, 100), 0);
        g.box(1, 12, 12, 16, 16);
        is("9: inside a box", g.may(1, 13, 15), 0);
        is("9: on a box's edge", g.may(1, 12, 14), 1);
        is("9: on its edge of x1", g.may(1, 16, 14), 1);
        is("9: on its edge of y0", g.may(1, 14, 12), 1);
        is("9: on its edge of y1", g.may(1, 14, 16), 1);
        is("9: at a box's corner", g.may(1, 16, 16), 1);
        g.box(1, 11, 11, 13, 15);
        is("9: on an edge of one, inside another", g.may(1, 12, 14), 0);
        g.box(0, 17, 17, 19, 19);
        is("9: a box of another level", g.may(1, 18, 18), 1);
    }

    private static void seeGround() {
        GroundKeeper g = hall();
        for (int bad : NOT_LEVELS) {
            is("10: level " + bad, g.see(bad, 0, 0, 1, 1), BAD);
        }
        for (int bad : NOT_WHERE) {
            is("10: x " + bad, g.see(0, bad, 0, 1, 1), BAD);
            is("10: y " + bad, g.see(0, 0, bad, 1, 1), BAD);
            is("10: ox " + bad, g.see(0, 0, 0, bad, 1), BAD);
            is("10: oy " + bad, g.see(0, 0, 0, 1, bad), BAD);
        }
        is("10: one place", g.see(0, 20, 20, 20, 20), 1);
        is("10: one place off the ground", g.see(0, 21, 20, 21, 20), 0);
        is("10: along an edge", g.see(0, 20, 20, 20, 0), 1);
        is("10: out of the room", g.see(0, 5, 5, 21, 5), 0);
        is("10: into the room", g.see(0, 21, 5, 5, 5), 0);
        is("10: another level", g.see(1, 5, 5, 6, 6), 0);
        g.room(0, 20, 10, 30, 20);
        is("10: over a shared edge", g.see(0, 0, 12, 30, 18), 1);
        is("10: exactly by the corner", g.see(0, 10, 0, 30, 20), 1);
        is("10: by the corner, from the other side", g.see(0, 30, 20, 10, 0), 1);
        is("10: just past the corner", g.see(0, 11, 0, 30, 20), 0);
        g.room(0, 31, 10, 40, 20);
        is("10: a gap narrower than a whole", g.see(0, 30, 15, 31, 15), 0);
        is("10: over the gap", g.see(0, 5, 15, 40, 15), 0);
        g.room(0, 29, 14, 32, 15);
        is("10: the gap is bridged", g.see(0, 5, 15, 40, 15), 1);
        is("10: beside the bridge", g.see(0, 5, 16, 40, 16), 0);
        GroundKeeper h = new GroundKeeper();
        h.room(0, 0, 0, 10, 10);
        h.room(0, 10, 10, 20, 20);
        is("10: rooms that share a corner alone", h.see(0, 0, 0, 20, 20), 1);
        is("10: beside that corner", h.see(0, 0, 1, 20, 20), 0);
        is("10: a corner alone is no room", h.see(0, 10, 10, 20, 0), 0);
    }

    private static void seeBoxes() {
        GroundKeeper g = hall();
        g.box(0, 5, 5, 10, 10);
        is("10: through a box", g.see(0, 0, 7, 20, 7), 0);
        is("10: along its edge", g.see(0, 0, 5, 20, 5), 1);
        is("10: along its other edge", g.see(0, 10, 20, 10, 0), 1);
        is("10: by its corner", g.see(0, 0, 10, 10, 0), 1);
        is("10: by its corner, slanting", g.see(0, 2, 11, 8, 8), 0);
        is("10: cutting its corner", g.see(0, 0, 11, 11, 0), 0);
        is("10: through both corners", g.see(0, 0, 0, 20, 20), 0);
        is("10: ending on its edge", g.see(0, 0, 7, 5, 7), 1);
        is("10: beginning on its edge, away", g.see(0, 10, 7, 20, 7), 1);
        is("10: from edge to edge", g.see(0, 5, 7, 10, 8), 0);
        is("10: ending inside", g.see(0, 0, 7, 6, 7), 0);
        is("10: wholly inside", g.see(0, 6, 6, 7, 7), 0);
        is("10: a place inside", g.see(0, 6, 6, 6, 6), 0);
        is("10: a place on the edge", g.see(0, 5, 6, 5, 6), 1);
        g.box(0, 10, 3, 15, 12);
        is("10: between two boxes", g.see(0, 10, 0, 10, 20), 1);
        g.box(0, 9, 8, 11, 9);
        is("10: shut by a third one", g.see(0, 10, 0, 10, 20), 0);
        g.take(2);
        is("10: taken up", g.see(0, 10, 0, 10, 20), 1);
        g.box(1, 0, 0, 20, 20);
        is("10: a box of another level", g.see(0, 0, 1, 20, 1), 1);
    }

    private static void seeDoors() {
        GroundKeeper g = hall();
        g.door(0, 10, 5, 10, 15);
        g.door(0, 12, 2, 18, 2);
        g.door(1, 1, 0, 1, 20);
        g.shut(0, true);
        g.shut(1, true);
        g.shut(2, true);
        is("10: through a door", g.see(0, 0, 10, 20, 11), -10);
        is("10: by its end", g.see(0, 0, 5, 20, 5), -10);
        is("10: beyond its end", g.see(0, 0, 4, 20, 4), 1);
        is("10: ending on it", g.see(0, 0, 7, 10, 7), -10);
        is("10: beginning on it", g.see(0, 10, 7, 0, 7), -10);
        is("10: a place on it", g.see(0, 10, 15, 10, 15), -10);
        is("10: along it", g.see(0, 10, 0, 10, 20), -10);
        is("10: within it", g.see(0, 10, 6, 10, 7), -10);
        is("10: up to its end", g.see(0, 10, 0, 10, 5), -10);
        is("10: before its end", g.see(0, 10, 0, 10, 4), 1);
        is("10: beside it", g.see(0, 9, 0, 9, 20), 1);
        is("10: slanting by its end exactly", g.see(0, 9, 4, 11, 6), -10);
        is("10: slanting past it", g.see(0, 9, 3, 11, 6), 1);
        is("10: through one along x", g.see(0, 15, 0, 14, 20), -10);
        is("10: past one along x", g.see(0, 11, 0, 11, 20), 1);
        is("10: a door of another level", g.see(0, 0, 1, 20, 1), 1);
        g.shut(0, false);
        is("10: opened", g.see(0, 0, 10, 20, 11), 1);
    }

    private static void seeLedges() {
        GroundKeeper g = hall();
        g.ledge(0, 10, 15, 10, 5, true);
        is("10: the right way", g.see(0, 5, 10, 15, 10), 1);
        is("10: the wrong way", g.see(0, 15, 10, 5, 10), -11);
        is("10: wrong by its end", g.see(0, 15, 5, 5, 5), -11);
        is("10: wrong by its other end", g.see(0, 11, 16, 9, 14), -11);
        is("10: past its end", g.see(0, 15, 4, 5, 4), 1);
        is("10: just past its end", g.see(0, 11, 4, 8, 6), 1);
        is("10: up to it", g.see(0, 15, 10, 10, 10), 1);
        is("10: away from it", g.see(0, 10, 10, 5, 10), 1);
        is("10: along it", g.see(0, 10, 20, 10, 0), 1);
        is("10: one place", g.see(0, 10, 10, 10, 10), 1);
        GroundKeeper h = hall();
        h.ledge(0, 10, 0, 10, 20, false);
        is("10: falling, toward less x", h.see(0, 15, 10, 5, 10), 1);
        is("10: falling, toward greater x", h.see(0, 5, 10, 15, 10), -11);
        is("10: falling, up to it", h.see(0, 5, 10, 10, 10), 1);
        is("10: falling, away from it", h.see(0, 10, 10, 15, 10), 1);
        is("10: falling, short of it", h.see(0, 5, 10, 9, 10), 1);
        is("10: falling, beyond it", h.see(0, 11, 10, 15, 10), 1);
        GroundKeeper i = hall();
        i.ledge(0, 5, 10, 15, 10, true);
        is("10: along x rising, toward greater y", i.see(0, 8, 5, 8, 15), 1);
        is("10: along x rising, toward less y", i.see(0, 8, 15, 9, 5), -11);
        is("10: along x, past its end", i.see(0, 4, 15, 4, 5), 1);
        is("10: along x, by its end", i.see(0, 5, 15, 5, 5), -11);
        is("10: along x, up to it", i.see(0, 8, 15, 8, 10), 1);
        is("10: along x, along it", i.see(0, 0, 10, 20, 10), 1);
        i.ledge(0, 0, 3, 20, 3, false);
        is("10: along x falling, toward less y", i.see(0, 8, 5, 8, 1), 1);
        is("10: along x falling, toward greater y", i.see(0, 8, 1, 8, 5), -11);
        i.ledge(1, 0, 18, 20, 18, false);
        is("10: a ledge of another level", i.see(0, 8, 17, 8, 19), 1);
    }

    private static void seeOrder() {
        GroundKeeper g = hall();
        g.ledge(0, 10, 0, 10, 20, true);
        g.door(0, 5, 0, 5, 20);
        is("10: a ledge", g.see(0, 20, 9, 0, 9), -11);
        g.shut(0, true);
        is("10: a door comes before a ledge", g.see(0, 20, 9, 0, 9), -10);
        g.box(0, 1, 8, 3, 10);
        is("10: the ground comes before a door", g.see(0, 20, 9, 0, 9), 0);
    }

    private static void way() {
        GroundKeeper g = hall();
        for (int bad : NOT_LEVELS) {
            is("11: level " + bad, g.way(bad, 0, 0, 0, 1, 1), BAD);
            is("11: other " + bad, g.way(0, 0, 0, bad, 1, 1), BAD);
        }
        for (int bad : NOT_WHERE) {
            is("11: x " + bad, g.way(0, bad, 0, 0, 1, 1), BAD);
            is("11: y " + bad, g.way(0, 0, bad, 0, 1, 1), BAD);
            is("11: ox " + bad, g.way(0, 0, 0, 0, bad, 1), BAD);
            is("11: oy " + bad, g.way(0, 0, 0, 0, 1, bad), BAD);
        }
        is("11: from off the ground", g.way(0, 21, 0, 0, 1, 1), NO);
        is("11: to off the ground", g.way(0, 1, 1, 0, 21, 0), NO);
        is("11: to another level", g.way(0, 1, 1, 1, 1, 1), NO);
        is("11: straight", g.way(0, 0, 0, 0, 3, 4), 5000);
        is("11: to where it begins", g.way(0, 7, 7, 0, 7, 7), 0);
        is("11: its end is a place of its own", g.bend(1, 0), 7);
        is("11: two places", g.bend(2, 0), NONE);
        g.box(0, 5, 0, 10, 10);
        is("11: around a box", g.way(0, 0, 10, 0, 15, 5), 10000 + 7071);
        is("11: from within a box", g.way(0, 6, 5, 0, 15, 5), NO);
        g.room(0, 30, 30, 40, 40);
        is("11: rooms apart", g.way(0, 0, 0, 0, 35, 35), NONE);
        is("11: in the room apart", g.way(0, 30, 30, 0, 30, 40), 10000);
        GroundKeeper h = hall();
        h.ledge(0, 10, 0, 10, 20, true);
        is("11: down a ledge", h.way(0, 5, 5, 0, 15, 5), 10000);
        is("11: up a ledge", h.way(0, 15, 5, 0, 5, 5), NONE);
        h.box(0, 10, 12, 12, 14);
        is("11: over a box's corner on the ledge", h.way(0, 15, 12, 0, 5, 12), 10000);
        is("11: by that corner", h.bend(1, 0) * 100 + h.bend(1, 1), 1012);
        GroundKeeper d = hall();
        d.door(0, 5, 0, 5, 10);
        d.shut(0, true);
        is("11: from a shut door", d.way(0, 5, 5, 0, 0, 0), NONE);
        is("11: to a shut door", d.way(0, 0, 0, 0, 5, 5), NONE);
        is("11: a place on a shut door", d.way(0, 5, 5, 0, 5, 5), NONE);
        is("11: round a shut door, by corners of the hall",
            d.way(0, 0, 0, 0, 6, 0), 20000 + 28284 + 14000);
    }

    /** Of like lengths the least number is settled first, and a like length does not replace one. */
    private static void wayTies() {
        GroundKeeper g = hall();
        g.box(0, 5, 5, 15, 15);
        is("11: both sides are alike", g.way(0, 0, 0, 0, 20, 20), 15811 * 2);
        is("11: the corner of the lesser number, x", g.bend(1, 0), 15);
        is("11: the corner of the lesser number, y", g.bend(1, 1), 5);
        is("11: and on", g.bend(2, 0), 20);
        is("11: no more", g.bend(3, 0), NONE);
        is("11: the other way round", g.way(0, 20, 20, 0, 0, 0), 15811 * 2);
        is("11: again the lesser number, x", g.bend(1, 0), 15);
        GroundKeeper h = hall();
        h.box(0, 5, 5, 10, 10);
        is("11: by a corner on the straight leg", h.way(0, 0, 5, 0, 20, 5), 20000);
        is("11: the straight leg comes first", h.bend(1, 0), 20);
    }

    /** Corners of rooms, boxes and ladders' ends are nodes, nothing else is. */
    private static void wayNodes() {
        GroundKeeper g = hall();
        g.door(0, 10, 0, 10, 18);
        g.shut(0, true);
        is("11: no node sees round the door but the hall's corners",
            g.way(0, 5, 10, 0, 15, 10), 2 * 11180 + 20000);
        is("11: corners x1, y1 behind x0, y1", g.bend(1, 0) * 100 + g.bend(1, 1), 20);
        g.ladder(0, 10, 20, 1, 0, 0, 5);
        is("11: a ladder's end is a node, though the other one is off the ground",
            g.way(0, 5, 10, 0, 15, 10), 2 * 11180);
        is("11: that end", g.bend(1, 0) * 100 + g.bend(1, 1), 1020);
        g.box(0, 10, 19, 12, 20);
        is("11: so is a box's corner", g.way(0, 5, 10, 0, 15, 10), 10295 + 10295);
        is("11: that corner", g.bend(1, 0) * 100 + g.bend(1, 1), 1019);
        g.take(0);
        is("11: not if it is taken up", g.way(0, 5, 10, 0, 15, 10), 2 * 11180);
        g.box(0, 9, 19, 11, 21);
        is("11: a node inside a box is left out, corners off the ground too",
            g.way(0, 5, 10, 0, 15, 10), 9848 + 2000 + 9848);
        is("11: its near corner", g.bend(1, 0) * 100 + g.bend(1, 1), 919);
        is("11: its far corner", g.bend(2, 0) * 100 + g.bend(2, 1), 1119);
    }

    private static void wayLadders() {
        GroundKeeper g = hall();
        g.room(1, 0, 0, 20, 20);
        is("11: no ladder", g.way(0, 0, 0, 1, 0, 0), NONE);
        g.ladder(0, 3, 4, 1, 10, 10, 900);
        is("11: up a ladder", g.way(0, 0, 0, 1, 10, 13), 5000 + 900 + 3000);
        is("11: level below", g.bend(1, 2), 0);
        is("11: level above", g.bend(2, 2), 1);
        is("11: four places", g.bend(3, 1), 13);
        is("11: down a ladder", g.way(1, 10, 13, 0, 0, 0), 3000 + 900 + 5000);
        is("11: from end to end", g.way(0, 3, 4, 1, 10, 10), 900);
        is("11: in one step", g.bend(2, 0), NONE);
        g.ladder(1, 10, 10, 0, 3, 4, 700);
        is("11: the least of several", g.way(0, 3, 4, 1, 10, 10), 700);
        g.ladder(1, 10, 10, 0, 3, 4, 800);
        is("11: still the least", g.way(1, 10, 10, 0, 3, 4), 700);
        g.ladder(0, 20, 20, 1, 20, 20, 0);
        is("11: a cost of nothing", g.way(0, 20, 20, 1, 20, 20), 0);
        is("11: up one ladder and down another is shorter", g.way(0, 3, 4, 0, 20, 20), 700 + 14142);
        g.box(1, 9, 9, 11, 11);
        is("11: the other end is inside a box", g.way(0, 3, 4, 1, 20, 20), 23345);
        GroundKeeper d = hall();
        d.room(1, 0, 0, 5, 5);
        d.door(0, 0, 3, 10, 3);
        d.shut(0, true);
        d.ladder(0, 3, 3, 1, 3, 3, 40);
        is("11: a shut door does not hinder on a ladder", d.way(1, 0, 3, 0, 3, 3), 3040);
        is("11: nor from one", d.way(0, 3, 3, 1, 0, 3), 3040);
        is("11: but no leg leads on", d.way(1, 0, 3, 0, 3, 10), NONE);
        is("11: to itself on a shut door, up and down", d.way(0, 3, 3, 0, 3, 3), 80);
        is("11: by the other end", d.bend(1, 2), 1);
    }

    private static void wayLengths() {
        GroundKeeper g = new GroundKeeper();
        g.room(0, 0, 0, 100, 100);
        is("11: the longest leg", g.way(0, 0, 0, 0, 100, 100), 141421);
        is("11: the root of 2", g.way(0, 0, 0, 0, 1, 1), 1414);
        is("11: the root of 3 is none", g.way(0, 0, 0, 0, 1, 2), 2236);
        is("11: whole ones", g.way(0, 20, 30, 0, 80, 75), 75000);
        is("11: one", g.way(0, 20, 30, 0, 20, 29), 1000);
        is("11: below a whole one", g.way(0, 0, 0, 0, 99, 14), 99984);
    }

    private static void bend() {
        GroundKeeper g = hall();
        is("12: no way yet", g.bend(0, 0), NONE);
        g.way(0, 1, 2, 0, 3, 4);
        is("12: x", g.bend(0, 0), 1);
        is("12: y", g.bend(0, 1), 2);
        is("12: level", g.bend(0, 2), 0);
        is("12: x of the end", g.bend(1, 0), 3);
        is("12: y of the end", g.bend(1, 1), 4);
        is("12: not so many", g.bend(2, 0), NONE);
        is("12: far", g.bend(Integer.MAX_VALUE, 2), NONE);
        is("12: below", g.bend(-1, 0), BAD);
        is("12: far below", g.bend(Integer.MIN_VALUE, 0), BAD);
        is("12: what below", g.bend(0, -1), BAD);
        is("12: what above", g.bend(0, 3), BAD);
        is("12: bad before none", g.bend(9, 3), BAD);
        g.room(2, 50, 50, 60, 60);
        is("12: one that finds none", g.way(0, 9, 9, 2, 55, 55), NONE);
        is("12: one that is refused", g.way(0, 9, 9, 0, 90, 90), NO);
        is("12: the latest that was found", g.bend(0, 0), 1);
        g.walker(0, 8, 8);
        g.go(0, 0, 5, 5);
        g.tick(1);
        is("12: a walker's way is not way()'s", g.bend(0, 0), 1);
        g.reach(0, 6, 6);
        is("12: nor is reach()'s", g.bend(1, 0), 3);
        g.box(0, 0, 0, 6, 6);
        is("12: what is found stays", g.bend(1, 1), 4);
        g.way(2, 50, 51, 2, 60, 60);
        is("12: a newer one", g.bend(0, 2), 2);
        is("12: a newer one's y", g.bend(0, 1), 51);
    }

    private static void reach() {
        GroundKeeper g = hall();
        for (int bad : NOT_LEVELS) {
            is("13: level " + bad, g.reach(bad, 0, 0), BAD);
        }
        for (int bad : NOT_WHERE) {
            is("13: x " + bad, g.reach(0, bad, 0), BAD);
            is("13: y " + bad, g.reach(0, 0, bad), BAD);
        }
        is("13: off the ground", g.reach(0, 21, 0), NO);
        is("13: four corners", g.reach(0, 5, 5), 4);
        is("13: from a corner", g.reach(0, 0, 0), 4);
        g.room(0, 30, 30, 40, 40);
        is("13: a room apart", g.reach(0, 5, 5), 4);
        g.room(0, 20, 10, 30, 20);
        is("13: corners of two rooms", g.reach(0, 5, 5), 8);
        g.room(1, 0, 0, 10, 10);
        g.ladder(0, 5, 5, 1, 5, 5, 1);
        is("13: by a ladder", g.reach(0, 5, 5), 12);
        is("13: back by a ladder", g.reach(1, 0, 0), 12);
        is("13: from the room apart", g.reach(0, 35, 35), 4);
        g.box(0, 15, 5, 25, 15);
        is("13: a corner inside a box is none, a box's own are not counted", g.reach(0, 5, 5), 11);
        g.room(0, 0, 0, 20, 20);
        is("13: corners of like places are counted each", g.reach(0, 5, 5), 15);
        GroundKeeper h = hall();
        h.ledge(0, 10, 0, 10, 20, true);
        is("13: up to the ledge and beyond", h.reach(0, 5, 5), 4);
        is("13: below the ledge", h.reach(0, 15, 5), 2);
        h.door(0, 20, 0, 20, 20);
        h.shut(0, true);
        is("13: corners on a shut door", h.reach(0, 15, 5), 0);
        is("13: from a shut door", h.reach(0, 20, 20), 0);
    }

    private static void walker() {
        GroundKeeper g = hall();
        for (int bad : NOT_LEVELS) {
            is("14: level " + bad, g.walker(bad, 0, 0), BAD);
        }
        for (int bad : NOT_WHERE) {
            is("14: x " + bad, g.walker(0, bad, 0), BAD);
            is("14: y " + bad, g.walker(0, 0, bad), BAD);
        }
        is("14: off the ground", g.walker(0, 21, 0), NO);
        g.box(0, 5, 5, 8, 8);
        is("14: inside a box", g.walker(0, 6, 6), NO);
        is("14: on a box's edge", g.walker(0, 5, 6), 0);
        g.door(0, 10, 10, 15, 10);
        is("14: on an open door", g.walker(0, 11, 10), 1);
        g.door(0, 10, 12, 15, 12);
        g.shut(1, true);
        is("14: on a shut door", g.walker(0, 11, 12), NO);
        is("14: at a shut door's end", g.walker(0, 15, 12), NO);
        is("14: beside a shut door", g.walker(0, 16, 12), 2);
        is("14: another one stands there", g.walker(0, 5, 6), NO);
        g.room(1, 0, 0, 20, 20);
        is("14: on another level none does", g.walker(1, 5, 6), 3);
        is("14: nor is the door there", g.walker(1, 11, 12), 4);
        is("14: the last one", g.walker(0, 20, 20), 5);
        is("14: bad before full", g.walker(0, 20, 101), BAD);
        is("14: no before full", g.walker(0, 20, 20), NO);
        is("14: full", g.walker(0, 19, 20), FULL);
        is("14: walkers", g.count(6), 6);
    }

    private static void go() {
        GroundKeeper g = hall();
        is("15: no one", g.go(0, 0, 1, 1), BAD);
        g.walker(0, 0, 10);
        for (int bad : NOT_LEVELS) {
            is("15: level " + bad, g.go(0, bad, 0, 0), BAD);
        }
        for (int bad : NOT_WHERE) {
            is("15: x " + bad, g.go(0, 0, bad, 0), BAD);
            is("15: y " + bad, g.go(0, 0, 0, bad), BAD);
        }
        is("15: below", g.go(-1, 0, 1, 1), BAD);
        is("15: not so many", g.go(1, 0, 1, 1), BAD);
        is("15: off the ground", g.go(0, 0, 21, 1), NO);
        g.box(0, 5, 0, 10, 15);
        is("15: around a box", g.go(0, 0, 20, 10), 3);
        is("15: it has not gone yet", g.about(0, 0), 0);
        is("15: a refusal leaves its row", g.go(0, 0, 21, 1), NO);
        is("15: its row", g.about(0, 3), 3);
        is("15: to where it stands", g.go(0, 0, 0, 10), 1);
        g.room(0, 30, 30, 40, 40);
        g.go(0, 0, 20, 10);
        is("15: no way", g.go(0, 0, 35, 35), NONE);
        is("15: its row is empty then", g.about(0, 3), 0);
        is("15: it is not stuck", g.about(0, 5), 0);
        is("15: no one goes", g.tick(1), 0);
        g.walker(0, 20, 10);
        is("15: others do not count", g.go(0, 0, 20, 10), 3);
    }

    private static void tickSteps() {
        GroundKeeper g = hall();
        g.walker(0, 0, 10);
        g.walker(0, 0, 0);
        for (int bad : new int[] {0, -1, 11, Integer.MAX_VALUE, Integer.MIN_VALUE}) {
            is("16: n " + bad, g.tick(bad), BAD);
        }
        is("16: no tick was", g.count(7), 0);
        g.box(0, 5, 0, 10, 15);
        g.go(0, 0, 20, 10);
        g.go(1, 0, 3, 4);
        is("16: one has come, one goes", g.tick(1), 1);
        is("16: x", g.about(0, 0), 5);
        is("16: y", g.about(0, 1), 15);
        is("16: ahead", g.about(0, 3), 2);
        is("16: it has come", g.about(1, 3), 0);
        is("16: its length", g.about(1, 7), 5000);
        is("16: the second step", g.tick(1), 1);
        is("16: the third step", g.tick(1), 0);
        is("16: steps", g.about(0, 6), 3);
        is("16: length", g.about(0, 7), 7071 + 5000 + 11180);
        is("16: ticks", g.count(7), 3);
        is("16: no one has a row", g.tick(10), 0);
        is("16: they stand", g.about(0, 6), 3);
        is("16: ticks of no one", g.count(7), 13);
        g.go(0, 0, 20, 10);
        g.tick(1);
        is("16: to where it stands is a step", g.about(0, 6), 4);
        is("16: of no length", g.about(0, 7), 7071 + 5000 + 11180);
    }

    /** By numbers: a walker of a lesser number leaves its place before the next one looks. */
    private static void tickWaits() {
        GroundKeeper g = hall();
        g.walker(0, 5, 5);
        g.walker(0, 10, 5);
        g.go(0, 0, 10, 5);
        g.go(1, 0, 15, 5);
        is("16: the first one waits, the second one goes", g.tick(1), 1);
        is("16: waited", g.about(0, 4), 1);
        is("16: it goes now", g.tick(1), 0);
        is("16: it counts no more", g.about(0, 4), 0);
        g.go(0, 0, 1, 5);
        g.go(1, 0, 10, 5);
        is("16: in one tick", g.tick(1), 0);
        is("16: the second one took its place", g.about(1, 0), 10);
        GroundKeeper d = hall();
        d.door(0, 10, 0, 10, 20);
        d.walker(0, 5, 5);
        d.go(0, 0, 15, 5);
        d.shut(0, true);
        is("16: a door was shut", d.tick(2), 1);
        is("16: waited twice", d.about(0, 4), 2);
        is("16: it did not look yet", d.about(0, 8), 0);
        is("16: told anew", d.go(0, 0, 5, 9), 1);
        is("16: that is no step", d.about(0, 4), 2);
        d.tick(1);
        is("16: a step is one", d.about(0, 4), 0);
        d.shut(0, false);
        d.go(0, 0, 15, 5);
        d.shut(0, true);
        d.tick(2);
        d.shut(0, false);
        is("16: opened in time", d.tick(1), 0);
        is("16: it went", d.about(0, 0), 15);
        GroundKeeper l = hall();
        l.walker(0, 15, 5);
        l.go(0, 0, 5, 5);
        l.ledge(0, 10, 0, 10, 20, true);
        is("16: a ledge is new", l.tick(1), 1);
        is("16: it waits for it", l.about(0, 4), 1);
        GroundKeeper b = hall();
        b.walker(0, 15, 5);
        b.go(0, 0, 5, 5);
        b.box(0, 4, 4, 6, 6);
        b.tick(2);
        b.take(0);
        is("16: a box was on its last place", b.tick(1), 0);
        is("16: it went there", b.about(0, 0), 5);
    }

    private static void tickGoesAround() {
        GroundKeeper g = hall();
        g.box(0, 5, 5, 15, 15);
        g.walker(0, 0, 0);
        g.walker(0, 15, 5);
        is("16: by the corner where the other one stands", g.go(0, 0, 20, 20), 2);
        is("16: it waits", g.tick(2), 1);
        is("16: it looks anew, and stands", g.tick(1), 1);
        is("16: looked", g.about(0, 8), 1);
        is("16: they count anew", g.about(0, 4), 0);
        is("16: still where it was", g.about(0, 6), 0);
        is("16: around", g.tick(1), 1);
        is("16: by the other corner, x", g.about(0, 0), 5);
        is("16: by the other corner, y", g.about(0, 1), 15);
        is("16: there", g.tick(1), 0);
        is("16: not stuck", g.about(0, 5), 0);
        GroundKeeper h = hall();
        h.walker(0, 0, 0);
        h.walker(0, 20, 20);
        h.go(0, 0, 20, 20);
        is("16: its last place is not left out", h.tick(3), 1);
        is("16: it has a row", h.about(0, 3), 1);
        is("16: not stuck either", h.about(0, 5), 0);
        is("16: it looks every third time", h.tick(7), 1);
        is("16: three times in ten", h.about(0, 8), 3);
        is("16: and waited once", h.about(0, 4), 1);
    }

    private static void tickStuck() {
        GroundKeeper g = hall();
        g.door(0, 10, 0, 10, 20);
        g.walker(0, 5, 5);
        g.go(0, 0, 15, 5);
        g.shut(0, true);
        is("16: the third time", g.tick(3), 0);
        is("16: stuck", g.about(0, 5), 1);
        is("16: no row", g.about(0, 3), 0);
        is("16: counted anew", g.about(0, 4), 0);
        is("16: looked once", g.about(0, 8), 1);
        g.shut(0, false);
        is("16: it stays", g.tick(10), 0);
        is("16: where it was", g.about(0, 0), 5);
        is("16: a refusal leaves it stuck", g.go(0, 0, 90, 90), NO);
        is("16: stuck still", g.about(0, 5), 1);
        is("16: told again", g.go(0, 0, 15, 5), 1);
        is("16: stuck no more", g.about(0, 5), 0);
        is("16: it comes", g.tick(1), 0);
        is("16: there", g.about(0, 0), 15);
        GroundKeeper b = hall();
        b.walker(0, 15, 5);
        b.go(0, 0, 5, 5);
        b.box(0, 4, 4, 6, 6);
        is("16: its last place is inside a box", b.tick(3), 0);
        is("16: so it is stuck", b.about(0, 5), 1);
        b.room(0, 50, 50, 60, 60);
        is("16: told where no way leads", b.go(0, 0, 55, 55), NONE);
        is("16: not stuck by that", b.about(0, 5), 0);
    }

    private static void tickLadders() {
        GroundKeeper g = hall();
        g.room(1, 0, 0, 20, 20);
        g.ladder(0, 5, 5, 1, 5, 5, 900);
        g.walker(0, 5, 5);
        g.walker(0, 0, 5);
        is("16: up", g.go(0, 1, 5, 5), 1);
        g.box(1, 4, 4, 6, 6);
        is("16: a box is on the other end", g.tick(1), 1);
        g.take(0);
        g.ladder(1, 5, 5, 0, 5, 5, 400);
        is("16: up at once", g.tick(1), 0);
        is("16: level", g.about(0, 2), 1);
        is("16: the least cost", g.about(0, 7), 400);
        is("16: two steps for the other one", g.go(1, 1, 5, 5), 2);
        is("16: it waits below", g.tick(2), 1);
        is("16: at the ladder", g.about(1, 0), 5);
        is("16: level below", g.about(1, 2), 0);
        g.go(0, 1, 9, 9);
        is("16: the first one makes room", g.tick(1), 0);
        is("16: level above", g.about(1, 2), 1);
        is("16: length of both steps", g.about(1, 7), 5400);
        GroundKeeper d = hall();
        d.room(1, 0, 0, 20, 20);
        d.ladder(0, 5, 5, 1, 5, 5, 1);
        d.door(1, 0, 5, 20, 5);
        d.shut(0, true);
        d.walker(0, 5, 5);
        d.go(0, 1, 5, 5);
        is("16: a ladder leads onto a shut door", d.tick(1), 0);
        is("16: there it stands", d.about(0, 2), 1);
        is("6: a shut door with one on it is opened", d.shut(0, false), 1);
        is("6: and is not shut again", d.shut(0, true), NO);
    }

    private static void about() {
        GroundKeeper g = hall();
        is("17: no one", g.about(0, 0), BAD);
        g.room(2, 10, 10, 90, 90);
        g.walker(2, 30, 40);
        int[] fresh = {30, 40, 2, 0, 0, 0, 0, 0, 0};
        for (int i = 0; i < 9; i++) {
            is("17: about(0, " + i + ")", g.about(0, i), fresh[i]);
        }
        is("17: what below", g.about(0, -1), BAD);
        is("17: what above", g.about(0, 9), BAD);
        is("17: below", g.about(-1, 0), BAD);
        is("17: not so many", g.about(1, 0), BAD);
        is("17: far", g.about(Integer.MAX_VALUE, Integer.MIN_VALUE), BAD);
        g.go(0, 2, 30, 50);
        is("17: ahead", g.about(0, 3), 1);
        g.tick(1);
        int[] gone = {30, 50, 2, 0, 0, 0, 1, 10000, 0};
        for (int i = 0; i < 9; i++) {
            is("17: then about(0, " + i + ")", g.about(0, i), gone[i]);
        }
    }

    private static void count() {
        GroundKeeper g = hall();
        is("18: below", g.count(-1), BAD);
        is("18: above", g.count(8), BAD);
        is("18: far", g.count(Integer.MAX_VALUE), BAD);
        g.room(1, 0, 0, 5, 5);
        g.box(0, 1, 1, 2, 2);
        g.box(0, 1, 1, 2, 2);
        g.box(0, 1, 1, 2, 2);
        g.take(1);
        for (int i = 0; i < 4; i++) {
            g.door(0, 3, 3, 3, 4);
        }
        g.shut(0, true);
        g.shut(3, true);
        g.shut(2, true);
        g.shut(0, false);
        for (int i = 0; i < 5; i++) {
            g.ledge(0, 3, 3, 3, 4, true);
            g.ladder(0, i, 0, 1, i, 0, 1);
        }
        g.ladder(0, 6, 0, 1, 6, 0, 1);
        g.walker(0, 9, 9);
        g.tick(4);
        g.tick(3);
        int[] due = {2, 2, 4, 2, 5, 6, 1, 7};
        for (int i = 0; i < 8; i++) {
            is("18: count(" + i + ")", g.count(i), due[i]);
        }
    }

    private static void digest() {
        GroundKeeper g = new GroundKeeper();
        is("19: nothing", g.digest(), 75907302332249L);
        g.room(0, 0, 0, 20, 20);
        g.room(1, 0, 0, 20, 20);
        g.box(0, 15, 15, 17, 17);
        g.door(0, 3, 3, 3, 9);
        g.shut(0, true);
        g.ledge(0, 18, 0, 18, 2, false);
        g.ladder(0, 5, 5, 1, 5, 5, 77);
        g.walker(0, 5, 5);
        g.walker(0, 6, 6);
        g.go(0, 1, 5, 5);
        g.go(1, 0, 20, 18);
        g.tick(3);
        int[] counts = {2, 1, 1, 1, 1, 1, 2, 3};
        int[] first = {5, 5, 1, 0, 0, 0, 1, 77, 0};
        int[] second = {20, 18, 0, 0, 0, 0, 2, 14212 + 4242, 0};
        long h = 89;
        for (int[] row : new int[][] {counts, first, second}) {
            for (int v : row) {
                h = 31 * h + v;
            }
        }
        is("19: all", g.digest(), h);
    }

    private static void refusalsChangeNothing() {
        GroundKeeper g = hall();
        g.box(0, 5, 5, 8, 8);
        g.door(0, 10, 0, 10, 20);
        g.ledge(0, 12, 0, 12, 20, true);
        g.walker(0, 3, 3);
        g.go(0, 0, 9, 9);
        long before = g.digest();
        g.room(0, 5, 5, 5, 6);
        g.box(0, 2, 2, 4, 4);
        g.take(3);
        g.door(0, 1, 1, 2, 2);
        g.shut(0, false);
        g.shut(1, true);
        g.ledge(0, 1, 1, 1, 1, true);
        g.ladder(0, 1, 1, 0, 2, 2, 5);
        g.walker(0, 3, 3);
        g.go(0, 0, 6, 6);
        g.go(0, 3, 6, 6);
        g.tick(11);
        g.way(0, 6, 6, 0, 1, 1);
        is("refused calls change nothing", g.digest(), before);
        is("refused calls leave no way", g.bend(0, 0), NONE);
    }

    /** All that there can be, on three levels: a street of four rooms each, and two ladders at each end. */
    private static void fullObject() {
        GroundKeeper g = new GroundKeeper();
        for (int i = 0; i < 12; i++) {
            g.room(i / 4, i % 4 * 25, 0, i % 4 * 25 + 25, 20);
        }
        for (int i = 0; i < 6; i++) {
            g.door(i / 2, 40, 0, 40, 20);
            g.ledge(i / 2, 30, 0, 30, 20, true);
            g.ladder(i % 2, 100, 10, i % 2 + 1, 100, 10, 1000 + i);
        }
        for (int i = 0; i < 8; i++) {
            g.box(i % 3, 10, 10 * (i / 3 % 2), 20, 10 * (i / 3 % 2) + 10);
        }
        for (int i = 0; i < 6; i++) {
            is("full: walker " + i, g.walker(0, i, 10), i);
        }
        is("full: room", g.room(0, 0, 0, 1, 1), FULL);
        is("full: box", g.box(0, 30, 0, 31, 1), FULL);
        is("full: door", g.door(0, 0, 0, 0, 1), FULL);
        is("full: ledge", g.ledge(0, 0, 0, 0, 1, true), FULL);
        is("full: ladder", g.ladder(0, 0, 0, 1, 0, 0, 1), FULL);
        is("full: walker", g.walker(0, 50, 5), FULL);
        is("full: see between boxes, over all rooms", g.see(0, 0, 10, 100, 10), 1);
        is("full: see back", g.see(0, 100, 10, 0, 10), -11);
        is("full: way", g.way(0, 0, 10, 2, 31, 10), 100000 + 1000 + 1001 + 69000);
        is("full: places of the way", g.bend(4, 0) + g.bend(5, 0), 31 - 1);
        is("full: reach", g.reach(0, 0, 10), 16 + 10 + 10);
        for (int i = 0; i < 6; i++) {
            is("full: go " + i, g.go(i, 2, 31 + i, 10), 4);
        }
        is("full: the first step", g.tick(1), 6);
        is("full: the first one is there", g.about(0, 0), 100);
        is("full: the next one waits", g.about(1, 4), 1);
        is("full: no one goes any more", g.tick(10), 0);
        for (int i = 0; i < 6; i++) {
            is("full: x of " + i, g.about(i, 0), i < 3 ? 31 + i : i);
            is("full: level of " + i, g.about(i, 2), i < 3 ? 2 : 0);
            is("full: those who looked when the only ladder was taken are stuck", g.about(i, 5), i < 3 ? 0 : 1);
        }
        for (int i = 0; i < 6; i++) {
            is("full: shut " + i, g.shut(i, true), 1);
        }
        is("full: the last door", g.see(2, 33, 10, 50, 10), -10);
        is("full: beside the doors", g.see(2, 41, 10, 50, 10), 1);
        is("full: one on a shut door", g.walker(2, 40, 10), NO);
    }
}
