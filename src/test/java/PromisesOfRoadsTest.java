/** The boundary cases of promises 17 to 20: a case for each sentence that names one, and the calls that are refused. */
public final class PromisesOfRoadsTest {
    private static final int LEAST = Past.LEAST;
    private static final int MOST = Past.MOST;

    public static void main(String[] args) throws Exception {
        Cases.runAll(PromisesOfRoadsTest.class);
    }

    private static void roads(String when, AntFloor x, int... due) {
        for (int what = 0; what < 4; what++) {
            Due.is(when + ": road(" + what + ")", x.road(what), due[what]);
        }
    }

    // ---- Promise 17: mark

    static void promise17_answersTheTime() {
        AntFloor x = new AntFloor();
        Due.is("at first", x.mark(), 0);
        x.run(2000);
        Due.is("behind 2000 steps", x.mark(), 2000);
        x.run(-2000);
        x.run(-1);
        Due.is("ahead of the beginning", x.mark(), -1);
    }

    static void promise17_withoutAnts() {
        AntFloor x = new AntFloor();
        x.paint(1, 1, 1);
        Due.is("mark()", x.mark(), 0);
        Due.is("differ()", x.differ(), 0);
        roads("without ants", x, 0, -1002, -1002, 0);
    }

    static void promise17_changesNothingElse() {
        AntFloor x = Past.onARoad();
        x.mark();
        AntFloor y = Past.onARoad();
        y.mark();
        y.mark();
        Refused.sameRead("behind two marks", y, x);
        AntFloor z = Past.onARoad();
        long before = z.digest();
        z.mark();
        Due.is("digest()", z.digest(), before);
        Due.is("count(2)", z.count(2), 1);
        Due.is("visits(0, 3)", z.visits(0, 3), 1);
        Due.is("time()", z.time(), 5);
    }

    static void promise17_cornersAreMarked() {
        AntFloor x = Past.of(0, 12);
        for (int[] corner : Past.CORNERS) {
            x.paint(corner[0], corner[1], 11);
        }
        x.mark();
        Due.is("differ()", x.differ(), 0);
        for (int i = 0; i < 4; i++) {
            x.paint(Past.CORNERS[i][0], Past.CORNERS[i][1], 0);
            Due.is("differ()", x.differ(), i + 1);
        }
    }

    // ---- Promise 18: road

    static void promise18_whatBelow0OrAbove3IsBadLess1000() {
        for (int what : new int[] {-1, 4, LEAST, MOST}) {
            Due.is("road(" + what + ") of a road", Past.onARoad().road(what), -1001);
            Due.is("road(" + what + ") of none", Past.sixAnts().road(what), -1001);
        }
    }

    static void promise18_badAheadOfNot() {
        for (int what : new int[] {-1, 4, LEAST, MOST}) {
            Due.is("road(" + what + ") without a mark", new AntFloor().road(what), -1001);
        }
    }

    static void promise18_noMarkIsNotLess1000() {
        AntFloor x = Past.straight(0, 0, 0, 0);
        x.run(3);
        roads("at first", x, -1002, -1002, -1002, -1002);
        x.mark();
        x.run(1);
        x.floor(0, 2);
        roads("behind floor()", x, -1002, -1002, -1002, -1002);
    }

    static void promise18_noneShownIs0AndNotLess1000AndV() {
        AntFloor x = new AntFloor();
        x.ant(0, 0, 0, 0);
        x.mark();
        roads("at the mark", x, 0, -1002, -1002, 0);
        x.run(3);
        roads("behind R, R, R", x, 0, -1002, -1002, 3);
    }

    static void promise18_aRoadIsPeriodShiftAndV() {
        AntFloor x = Past.straight(1, 0, 0, 2);
        x.mark();
        x.run(7);
        roads("up to the left of sixes", x, 7, -7, 7, 7);
        AntFloor y = Past.straight(1, 0, 0, 5);
        y.mark();
        y.run(7);
        roads("down to the right of sixes", y, 7, 7, -7, 7);
    }

    static void promise18_aShiftOfMinus1IsAnAnswer() {
        AntFloor x = Past.straight(0, 0, 0, 3);
        x.mark();
        x.run(1);
        roads("a step to the left", x, 1, -1, 0, 1);
        AntFloor y = Past.straight(0, 0, 0, 2);
        y.mark();
        y.run(1);
        roads("a step down", y, 1, 0, -1, 1);
    }

    static void promise18_vAsItIsThoughNoneIsShown() {
        AntFloor x = Past.onARoad();
        roads("on the road", x, 2, 0, 2, 2);
        x.paint(100, 100, 1);
        roads("behind paint()", x, 0, -1002, -1002, 2);
        x.run(1);
        roads("a step on", x, 0, -1002, -1002, 3);
        x.less();
        roads("without an ant", x, 0, -1002, -1002, 3);
    }

    static void promise18_changesNothing() {
        for (int what = 0; what < 4; what++) {
            int one = what;
            int[] due = {2, 0, 2, 2};
            Refused.changesNothing("road(" + what + ")", Past::onARoad, x -> x.road(one), due[what]);
        }
        Refused.changesNothing("road(4)", Past::onARoad, x -> x.road(4), -1001);
        Refused.changesNothing("road(1)", Past::sixAnts, x -> x.road(1), -1002);
    }

    // ---- Promise 19: differ

    static void promise19_noMarkIsNot() {
        AntFloor x = Past.straight(0, 0, 0, 0);
        x.run(3);
        Due.is("at first", x.differ(), AntFloor.NOT);
        x.mark();
        Due.is("at the mark", x.differ(), 0);
        x.floor(0, 2);
        Due.is("behind floor()", x.differ(), AntFloor.NOT);
    }

    static void promise19_fromNoneToSome() {
        AntFloor x = Past.of(0, 3);
        x.paint(-120, -120, 2);
        x.mark();
        Due.is("at the mark", x.differ(), 0);
        x.paint(-120, -120, 1);
        Due.is("2 is 1", x.differ(), 1);
        x.paint(119, 119, 1);
        Due.is("0 is 1", x.differ(), 2);
        x.paint(-120, -120, 0);
        Due.is("2 is 0", x.differ(), 2);
        x.paint(-120, -120, 2);
        Due.is("as it was", x.differ(), 1);
        x.paint(119, 119, 0);
        Due.is("all as they were", x.differ(), 0);
    }

    static void promise19_anyCallThatColoursCounts() {
        AntFloor x = Past.straight(0, 0, 0, 0);
        Past.fill(x, 0, 0, 1, 1, 1);
        x.mark();
        x.run(2);
        Due.is("steps", x.differ(), 2);
        x.lay(0, 0, 0, 3, 50, 50);
        Due.is("lay()", x.differ(), 5);
        x.run(-4);
        Due.is("steps back", x.differ(), 5);
        x.run(-1);
        Due.is("one more", x.differ(), 6);
    }

    static void promise19_antsAndTimeDoNotCount() {
        AntFloor x = new AntFloor();
        x.mark();
        x.run(5);
        x.ant(0, 0, 0, 0);
        Due.is("differ()", x.differ(), 0);
    }

    static void promise19_changesNothing() {
        Refused.changesNothing("differ()", Past::onARoad, x -> x.differ(), 2);
        Refused.changesNothing("differ() without a mark", () -> Past.straight(0, 1, 1, 1), x -> x.differ(),
            AntFloor.NOT);
    }

    // ---- Promise 20: like

    static void promise20_wayBelow0OrAbove4IsBad() {
        for (int way : new int[] {-1, 5, LEAST, MOST}) {
            Due.is("like(" + way + ", 0, 0)", new AntFloor().like(way, 0, 0), AntFloor.BAD);
            Due.is("like(" + way + ", 0, 0) of sixes", Past.of(1, 2).like(way, 0, 0), AntFloor.BAD);
        }
        for (int way = 0; way < 5; way++) {
            Due.is("like(" + way + ", 0, 0)", new AntFloor().like(way, 0, 0), 1);
        }
    }

    static void promise20_aAndBBeyond300AreBad() {
        for (int way = 0; way < 5; way++) {
            for (int v : new int[] {-301, 301, LEAST, MOST}) {
                Due.is("like(" + way + ", " + v + ", 0)", new AntFloor().like(way, v, 0), AntFloor.BAD);
                Due.is("like(" + way + ", 0, " + v + ")", new AntFloor().like(way, 0, v), AntFloor.BAD);
            }
            for (int v : new int[] {-300, 300}) {
                Due.is("like(" + way + ", " + v + ", 0)", new AntFloor().like(way, v, 0), 1);
                Due.is("like(" + way + ", 0, " + v + ")", new AntFloor().like(way, 0, v), 1);
            }
        }
    }

    static void promise20_anotherWayOfSixesIsNot() {
        AntFloor x = Past.of(1, 2);
        Due.is("way 0", x.like(0, 0, 0), 1);
        for (int way = 1; way < 5; way++) {
            Due.is("way " + way, x.like(way, 0, 0), AntFloor.NOT);
            Due.is("way " + way, x.like(way, 300, -300), AntFloor.NOT);
        }
    }

    static void promise20_badAheadOfNot() {
        AntFloor x = Past.of(1, 2);
        for (int way = 1; way < 5; way++) {
            Due.is("way " + way, x.like(way, 301, 0), AntFloor.BAD);
            Due.is("way " + way, x.like(way, 0, -301), AntFloor.BAD);
        }
    }

    static void promise20_answers1Or0() {
        AntFloor x = Past.of(0, 12);
        x.paint(3, 4, 11);
        int[][] own = {{6, 8}, {6, 0}, {0, 8}, {-1, 0}, {7, 0}};
        for (int way = 0; way < 5; way++) {
            Due.is("its own image by way " + way, x.like(way, own[way][0], own[way][1]), 1);
            Due.is("not by way " + way, x.like(way, own[way][0] + 1, own[way][1] + 1), 0);
        }
    }

    static void promise20_oneCornerIsEnoughFor0() {
        for (int[] corner : Past.CORNERS) {
            AntFloor x = new AntFloor();
            x.paint(corner[0], corner[1], 1);
            Due.is("half turn", x.like(0, 0, 0), 0);
            Due.is("mirror of x", x.like(1, 0, 0), 0);
            Due.is("mirror of y", x.like(2, 0, 0), 0);
            Due.is("diagonal", x.like(3, 0, 0), corner[0] == corner[1] ? 1 : 0);
            Due.is("other diagonal", x.like(4, -1, 0), corner[0] == corner[1] ? 0 : 1);
            Due.is("half turn of the floor", x.like(0, -1, -1), 0);
            x.paint(-1 - corner[0], -1 - corner[1], 1);
            Due.is("half turn of both", x.like(0, -1, -1), 1);
        }
    }

    static void promise20_changesNothing() {
        Refused.changesNothing("like(5, 0, 0)", Past::onARoad, x -> x.like(5, 0, 0), AntFloor.BAD);
        Refused.changesNothing("like(0, 301, 0)", Past::onARoad, x -> x.like(0, 301, 0), AntFloor.BAD);
        Refused.changesNothing("like(1, 0, 0)", () -> Past.onARoad(1), x -> x.like(1, 0, 0), AntFloor.NOT);
        Refused.changesNothing("like(0, 0, 0)", Past::onARoad, x -> x.like(0, 0, 0), 0);
    }
}
