/** Promises 17 to 20: mark, road, differ, like. */
public final class RoadsTest {
    private static final int LEAST = Integer.MIN_VALUE;
    private static final int MOST = Integer.MAX_VALUE;

    public static void main(String[] args) {
        noMark();
        markAnswersTheTime();
        straightRoad();
        roadOfSixes();
        whatBreaksARoad();
        whatDoesNotBreakARoad();
        refusedCallsDoNotBreakARoad();
        oneAntAsAtTheMark();
        noShiftIsNoRoad();
        paintedAhead();
        paintedAtTheEdge();
        paintedBesideTheRoad();
        roadFromACorner();
        cellsOfV();
        theHighway();
        differ();
        likeHalfTurn();
        likeMirrors();
        likeDiagonals();
        likeBeyondTheFloor();
        likeWrong();
        Due.end();
    }

    /** An ant that goes straight on from (0, 0), colouring as it goes. */
    private static AntFloor straight(int direction) {
        AntFloor x = new AntFloor();
        FloorTest.rule(x, 0, "NN");
        x.ant(0, 0, direction, 0);
        return x;
    }

    private static void road(AntFloor x, String when, int period, int dx, int dy, int v) {
        Due.is("road(0) " + when, x.road(0), period);
        Due.is("road(1) " + when, x.road(1), dx);
        Due.is("road(2) " + when, x.road(2), dy);
        Due.is("road(3) " + when, x.road(3), v);
    }

    private static void noRoad(AntFloor x, String when, int v) {
        road(x, when, 0, -1002, -1002, v);
    }

    private static void noMark() {
        AntFloor x = straight(0);
        x.run(3);
        for (int what = 0; what < 4; what++) {
            Due.is("road(" + what + ") without a mark", x.road(what), -1002);
        }
        for (int what : new int[] {-1, 4, LEAST, MOST}) {
            Due.is("road(" + what + ") without a mark", x.road(what), -1001);
        }
        Due.is("differ() without a mark", x.differ(), AntFloor.NOT);
        x.mark();
        for (int what : new int[] {-1, 4, LEAST, MOST}) {
            Due.is("road(" + what + ") with a mark", x.road(what), -1001);
        }
        x.floor(0, 2);
        Due.is("road(0) behind floor()", x.road(0), -1002);
        Due.is("road(3) behind floor()", x.road(3), -1002);
        Due.is("differ() behind floor()", x.differ(), AntFloor.NOT);
    }

    private static void markAnswersTheTime() {
        AntFloor x = new AntFloor();
        Due.is("mark()", x.mark(), 0);
        x.run(7);
        Due.is("mark()", x.mark(), 7);
        x.run(-10);
        Due.is("mark()", x.mark(), -3);
        x.run(5);
        noRoad(x, "without ants", 0);
    }

    private static void straightRoad() {
        int[][] way = {{0, 1}, {1, 0}, {0, -1}, {-1, 0}};
        for (int d = 0; d < 4; d++) {
            AntFloor x = straight(d);
            x.run(5);
            x.mark();
            noRoad(x, "at the mark", 0);
            x.run(1);
            road(x, "one step on", 1, way[d][0], way[d][1], 1);
            x.run(9);
            road(x, "ten steps on", 10, 10 * way[d][0], 10 * way[d][1], 10);
            x.mark();
            noRoad(x, "at a new mark", 0);
            x.run(3);
            road(x, "from the new mark", 3, 3 * way[d][0], 3 * way[d][1], 3);
        }
    }

    private static void roadOfSixes() {
        int[][] way = {{1, 0}, {0, 1}, {-1, 1}, {-1, 0}, {0, -1}, {1, -1}};
        for (int d = 0; d < 6; d++) {
            AntFloor x = new AntFloor();
            x.floor(1, 3);
            FloorTest.rule(x, 2, "NSM");
            x.ant(0, 0, d, 2);
            x.mark();
            x.run(4);
            road(x, "of sixes by " + d, 4, 4 * way[d][0], 4 * way[d][1], 4);
        }
    }

    private static void whatBreaksARoad() {
        for (int how = 0; how < 7; how++) {
            AntFloor x = straight(0);
            x.mark();
            x.run(2);
            road(x, "ahead of break " + how, 2, 0, 2, 2);
            switch (how) {
                case 0: x.paint(100, 100, 0); break;
                case 1: FloorTest.rule(x, 3, "RL"); break;
                case 2: x.ant(50, 50, 0, 0); x.less(); break;
                case 3: x.less(); x.ant(0, 2, 0, 0); break;
                case 4: x.sheet(0, 0, 1); x.lay(0, 0, 0, 1, 100, 100); break;
                case 5: x.run(-1); x.run(1); break;
                default: x.ant(50, 50, 0, 0); break;
            }
            noRoad(x, "behind break " + how, 2);
            x.run(1);
            noRoad(x, "a step behind break " + how, how == 6 ? 4 : 3);
        }
    }

    private static void whatDoesNotBreakARoad() {
        AntFloor x = straight(0);
        x.mark();
        x.run(2);
        x.sheet(0, 0, 3);
        Due.is("lay of none", x.lay(0, 0, 0, 0, 0, 0), 0);
        Due.is("lay of none from beyond", x.lay(0, 0, 4, 0, 0, 0), AntFloor.INDEX);
        x.item(0, 0, 0, 1);
        x.copy(0, 0, 0, 1, 1);
        x.type('R', 1);
        x.drop(0);
        x.like(0, 0, 0);
        x.digest();
        road(x, "behind all that", 2, 0, 2, 2);
    }

    private static void refusedCallsDoNotBreakARoad() {
        AntFloor x = straight(0);
        x.mark();
        x.run(2);
        x.sheet(0, 0, 3);
        x.item(0, 0, 0, 9);
        Due.is("lay BAD", x.lay(0, 0, 0, 1, 0, 0), AntFloor.BAD);
        Due.is("lay NULL", x.lay(1, 0, 0, 1, 0, 0), AntFloor.NULL);
        Due.is("paint BAD", x.paint(0, 0, 2), AntFloor.BAD);
        Due.is("ant BAD", x.ant(0, 0, 4, 0), AntFloor.BAD);
        Due.is("rule NOT", x.rule(0), AntFloor.NOT);
        Due.is("rule BAD", x.rule(4), AntFloor.BAD);
        Due.is("floor BAD", x.floor(0, 1), AntFloor.BAD);
        Due.is("run BAD", x.run(0), AntFloor.BAD);
        road(x, "behind refused calls", 2, 0, 2, 2);
        AntFloor y = new AntFloor();
        FloorTest.rule(y, 0, "NN");
        y.ant(0, -120, 0, 0);
        y.mark();
        Due.is("no step back can be done", y.run(-1), AntFloor.EDGE);
        y.run(2);
        road(y, "behind a step back that was none", 2, 0, 2, 2);
        y.run(2000);
        Due.is("no step can be done", y.run(1), AntFloor.EDGE);
        road(y, "at the edge", 239, 0, 239, 239);
    }

    private static void oneAntAsAtTheMark() {
        AntFloor x = new AntFloor();
        FloorTest.rule(x, 0, "NN");
        x.ant(0, 0, 0, 0);
        x.ant(30, 0, 0, 0);
        x.mark();
        x.run(2);
        noRoad(x, "of two ants", 4);
        x.less();
        x.run(2);
        noRoad(x, "of one ant that was one of two", 6);
        AntFloor none = new AntFloor();
        FloorTest.rule(none, 0, "NN");
        none.mark();
        none.ant(0, 1, 0, 0);
        none.run(1);
        noRoad(none, "of an ant that was not there at the mark", 1);
        AntFloor y = new AntFloor();
        y.ant(0, 0, 0, 0);
        y.mark();
        y.run(1);
        noRoad(y, "in another direction", 1);
        AntFloor z = new AntFloor();
        z.ant(0, 0, 0, 0);
        z.run(5);
        z.run(-5);
        z.mark();
        z.run(-5);
        noRoad(z, "of an earlier time", 0);
    }

    private static void noShiftIsNoRoad() {
        AntFloor x = new AntFloor();
        FloorTest.rule(x, 0, "RR");
        x.ant(0, 0, 0, 0);
        x.mark();
        x.run(8);
        Due.is("all is as it was", x.differ(), 0);
        noRoad(x, "round and round", 4);
    }

    /** What lies ahead must come again at each shift, or it is no road. */
    private static void paintedAhead() {
        int[][] painted = {{0, 0}, {3}, {3, 7}, {3, 7, 11}, {1, 5, 9}, {0, 3}};
        for (int[] at : painted) {
            AntFloor x = straight(1);
            for (int far : at) {
                x.paint(far, 0, 1);
            }
            x.mark();
            x.run(4);
            noRoad(x, "with paint ahead", 4);
        }
        AntFloor y = straight(1);
        for (int far = 3; far < 120; far += 4) {
            y.paint(far, 0, 1);
        }
        y.mark();
        y.run(4);
        // The last one, at 119, has no cell on THE FLOOR 4 further, and beyond all is 0.
        noRoad(y, "with paint up to the edge", 4);
        AntFloor z = straight(1);
        z.paint(-2, 0, 1);
        z.mark();
        z.run(4);
        road(z, "with paint behind", 4, 4, 0, 4);
    }

    private static void paintedAtTheEdge() {
        AntFloor x = straight(1);
        x.paint(119, 0, 1);
        x.mark();
        x.run(7);
        // (0 + 17 * 7, 0) is the edge.
        noRoad(x, "with paint on a cell of the chain's end", 7);
        x.mark();
        x.run(3);
        noRoad(x, "of another period", 3);
        AntFloor y = straight(1);
        y.paint(119, 1, 1);
        y.mark();
        y.run(7);
        road(y, "with paint in another row", 7, 7, 0, 7);
    }

    /** The chain from a corner alone tells that it is no road. */
    private static void roadFromACorner() {
        for (int side = 0; side < 2; side++) {
            for (int painted = 0; painted < 2; painted++) {
                int start = side == 0 ? -120 : 119;
                int way = side == 0 ? 1 : -1;
                AntFloor x = new AntFloor();
                FloorTest.rule(x, 0, "NN");
                x.ant(start, start, 2 * side, 0);
                x.paint(start, start + 4 * way, painted);
                x.mark();
                x.run(2);
                Due.is("a road from the corner " + start, x.road(0), painted == 0 ? 2 : 0);
                Due.is("V of the corner " + start, x.road(3), 2);
                Due.is("back to the corner " + start, x.run(-2), 2);
                Due.is("it stands there", x.told(0, 1), start);
            }
        }
    }

    private static void paintedBesideTheRoad() {
        AntFloor x = straight(1);
        FloorTest.rule(x, 0, "NN");
        x.paint(50, 1, 1);
        x.paint(50, -1, 1);
        x.paint(-1, 0, 1);
        x.mark();
        x.run(5);
        road(x, "between paint", 5, 5, 0, 5);
    }

    private static void cellsOfV() {
        AntFloor x = new AntFloor();
        FloorTest.rule(x, 0, "UU");
        x.ant(0, 0, 0, 0);
        x.run(10);
        x.mark();
        Due.is("V is empty at the mark", x.road(3), 0);
        x.run(1);
        Due.is("one cell", x.road(3), 1);
        x.run(9);
        Due.is("two cells, each but once", x.road(3), 2);
        x.run(-9);
        Due.is("acts back take no cell away", x.road(3), 2);
        x.run(-100);
        Due.is("and bring none", x.road(3), 2);
        AntFloor y = straight(0);
        y.mark();
        y.run(-6);
        Due.is("steps back alone", y.road(3), 0);
    }

    private static void theHighway() {
        AntFloor x = new AntFloor();
        x.ant(0, 0, 0, 0);
        for (int i = 0; i < 5; i++) {
            x.run(2000);
        }
        x.mark();
        x.run(104);
        Due.is("the highway's period", x.road(0), 104);
        Due.is("it goes by 2", Math.abs(x.road(1)), 2);
        Due.is("and by 2", Math.abs(x.road(2)), 2);
        x.run(103);
        Due.is("not 207", x.road(0), 0);
        x.run(1);
        Due.is("twice the period", x.road(0), 208);
        Due.is("twice the shift", Math.abs(x.road(1)), 4);
        AntFloor y = new AntFloor();
        y.ant(0, 0, 0, 0);
        y.run(1000);
        y.mark();
        y.run(104);
        Due.is("no highway yet", y.road(0), 0);
    }

    private static void differ() {
        AntFloor x = new AntFloor();
        x.floor(0, 3);
        x.paint(-120, -120, 2);
        x.paint(119, 119, 1);
        x.mark();
        Due.is("differ() at the mark", x.differ(), 0);
        x.paint(-120, -120, 1);
        Due.is("one differs", x.differ(), 1);
        x.paint(119, 119, 0);
        x.paint(0, 0, 2);
        Due.is("three differ", x.differ(), 3);
        x.paint(119, 119, 1);
        Due.is("as it was again", x.differ(), 2);
        Due.is("the mark is a copy", x.mark(), 0);
        Due.is("differ() at a new mark", x.differ(), 0);
        x.ant(5, 5, 0, 0);
        x.run(3);
        Due.is("acts colour", x.differ(), 3);
    }

    private static void like(AntFloor x, int way, int a, int b, int due) {
        Due.is("like(" + way + ", " + a + ", " + b + ")", x.like(way, a, b), due);
    }

    private static void likeHalfTurn() {
        for (int kind = 0; kind < 2; kind++) {
            AntFloor x = new AntFloor();
            x.floor(kind, 3);
            like(x, 0, 0, 0, 1);
            like(x, 0, 300, -300, 1);
            x.paint(1, 2, 1);
            like(x, 0, 2, 4, 1);
            like(x, 0, 0, 0, 0);
            x.paint(4, 8, 2);
            like(x, 0, 5, 10, 0);
            x.paint(4, 8, 1);
            like(x, 0, 5, 10, 1);
            like(x, 0, 10, 5, 0);
            x.paint(0, 0, 2);
            like(x, 0, 5, 10, 0);
            x.paint(5, 10, 2);
            like(x, 0, 5, 10, 1);
        }
    }

    private static void likeMirrors() {
        AntFloor x = new AntFloor();
        x.floor(0, 3);
        x.paint(-3, 7, 2);
        x.paint(4, 7, 2);
        like(x, 1, 1, 0, 1);
        like(x, 1, 1, 123, 1);
        like(x, 1, 0, 1, 0);
        like(x, 2, 0, 14, 1);
        like(x, 2, 123, 14, 1);
        like(x, 2, 14, 0, 0);
        like(x, 0, 1, 14, 1);
        like(x, 3, 0, 0, 0);
        like(x, 4, 0, 0, 0);
        x.paint(4, 7, 1);
        like(x, 1, 1, 0, 0);
        like(x, 2, 0, 14, 1);
    }

    private static void likeDiagonals() {
        AntFloor x = new AntFloor();
        x.floor(0, 3);
        x.paint(2, 9, 1);
        // y + a = 9 + a, x - a = 2 - a: at a = -7 the cell is its own image.
        like(x, 3, -7, 55, 1);
        like(x, 3, 0, 0, 0);
        x.paint(12, -1, 1);
        // (2, 9) and (12, -1): y + 3 = 12, x - 3 = -1.
        like(x, 3, 3, 0, 1);
        like(x, 3, -3, 0, 0);
        x.paint(12, -1, 0);
        like(x, 4, 11, 0, 1);
        x.paint(-4, 3, 1);
        // (2, 9) and (-4, 3): 5 - 9 = -4, 5 - 2 = 3.
        like(x, 4, 5, -99, 1);
        like(x, 4, 11, 0, 0);
    }

    private static void likeBeyondTheFloor() {
        AntFloor x = new AntFloor();
        x.paint(119, 119, 1);
        like(x, 0, -2, -2, 0);
        like(x, 1, -2, 0, 0);
        like(x, 1, 238, 0, 1);
        like(x, 2, 0, 238, 1);
        like(x, 2, 0, 237, 0);
        like(x, 0, 238, 238, 1);
        like(x, 3, 0, 0, 1);
        like(x, 3, 1, 0, 0);
        like(x, 4, 238, 0, 1);
        x.paint(119, 119, 0);
        x.paint(-120, -120, 1);
        like(x, 1, -240, 0, 1);
        like(x, 1, -1, 0, 0);
        like(x, 1, -300, 0, 0);
        x.paint(119, -120, 1);
        like(x, 1, -1, 0, 1);
    }

    private static void likeWrong() {
        AntFloor x = new AntFloor();
        int[][] wrong = {{-1, 0, 0}, {5, 0, 0}, {LEAST, 0, 0}, {MOST, 0, 0}, {0, 301, 0}, {0, -301, 0}, {0, 0, 301},
            {0, 0, -301}, {0, LEAST, 0}, {0, 0, LEAST}, {1, 0, 301}, {2, 301, 0}, {3, 0, MOST}, {4, 0, -301}};
        for (int kind = 0; kind < 2; kind++) {
            x.floor(kind, 2);
            for (int[] w : wrong) {
                like(x, w[0], w[1], w[2], AntFloor.BAD);
            }
            like(x, 0, -300, 300, 1);
        }
        for (int way = 1; way < 5; way++) {
            like(x, way, 0, 0, AntFloor.NOT);
        }
    }
}
