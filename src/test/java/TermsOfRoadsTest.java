import java.util.function.Consumer;

/** The boundary cases in 'Terms', 2 THE MARK and ROADS, 3 IMAGES, SHEETS: a case for each sentence that names one. */
public final class TermsOfRoadsTest {
    public static void main(String[] args) throws Exception {
        Cases.runAll(TermsOfRoadsTest.class);
    }

    private static void road(String when, AntFloor x, int period, int dx, int dy, int v) {
        Due.is(when + ": road(0)", x.road(0), period);
        Due.is(when + ": road(1)", x.road(1), dx);
        Due.is(when + ": road(2)", x.road(2), dy);
        Due.is(when + ": road(3)", x.road(3), v);
    }

    private static void noRoad(String when, AntFloor x, int v) {
        road(when, x, 0, -1002, -1002, v);
    }

    // ---- THE MARK, V

    static void terms2_mark_noneAtFirst() {
        AntFloor x = new AntFloor();
        Due.is("differ()", x.differ(), AntFloor.NOT);
        Due.is("road(0)", x.road(0), -1002);
    }

    static void terms2_mark_isACopyOfTheFloor() {
        AntFloor x = Past.straight(0, 0, 0, 0);
        x.paint(5, 5, 1);
        x.mark();
        x.paint(5, 5, 0);
        x.run(2);
        Due.is("differ()", x.differ(), 3);
    }

    static void terms2_mark_isACopyOfTheAntsAndTheTime() {
        AntFloor x = Past.straight(0, -7, 9, 0);
        x.run(4);
        x.mark();
        x.run(1);
        road("a step on", x, 1, 0, 1, 1);
        x.run(2);
        road("two more", x, 3, 0, 3, 3);
    }

    static void terms2_mark_aNewOneTakesThePlaceOfTheOld() {
        AntFloor x = Past.straight(0, 0, 0, 0);
        x.mark();
        x.run(4);
        x.mark();
        Due.is("differ()", x.differ(), 0);
        noRoad("at the new mark", x, 0);
        x.run(1);
        road("a step on", x, 1, 0, 1, 1);
        Due.is("differ()", x.differ(), 1);
    }

    static void terms2_mark_aNewOneForgetsWhatBrokeTheOld() {
        AntFloor x = Past.straight(0, 0, 0, 0);
        x.mark();
        x.run(1);
        x.paint(50, 50, 1);
        x.run(-1);
        noRoad("broken", x, 1);
        x.mark();
        x.run(2);
        road("of the new mark", x, 2, 0, 2, 2);
    }

    static void terms2_v_emptyAtTheMark() {
        AntFloor x = Past.straight(0, 0, 0, 0);
        x.run(3);
        x.mark();
        Due.is("road(3)", x.road(3), 0);
    }

    static void terms2_v_withoutTheCellTheAntCameTo() {
        AntFloor x = Past.straight(0, 0, 0, 0);
        x.mark();
        x.run(1);
        Due.is("road(3)", x.road(3), 1);
    }

    static void terms2_v_eachCellOnce() {
        AntFloor x = new AntFloor();
        Past.rule(x, 0, "UU");
        x.ant(0, 0, 0, 0);
        x.mark();
        x.run(1);
        Due.is("one cell", x.road(3), 1);
        x.run(8);
        Due.is("two cells, to and fro", x.road(3), 2);
    }

    static void terms2_v_ofAllAnts() {
        AntFloor x = Past.straight(0, 0, 0, 0);
        x.ant(0, 1, 0, 0);
        x.ant(50, 50, 1, 0);
        x.mark();
        x.run(2);
        Due.is("(0, 0), (0, 1), (0, 2), (50, 50), (51, 50)", x.road(3), 5);
    }

    static void terms2_v_ofAnAntThatIsGone() {
        AntFloor x = Past.straight(0, 0, 0, 0);
        x.mark();
        x.run(2);
        x.less();
        Due.is("road(3)", x.road(3), 2);
    }

    static void terms2_v_notOfActsBack() {
        AntFloor x = Past.straight(0, 0, 0, 0);
        x.mark();
        x.run(-3);
        Due.is("steps back alone", x.road(3), 0);
        x.run(5);
        Due.is("steps from further back", x.road(3), 5);
        x.run(-5);
        Due.is("on them acts began, taken back or not", x.road(3), 5);
    }

    static void terms2_v_notOfARefusedStep() {
        AntFloor x = Past.straight(0, 0, 0, 0);
        x.ant(119, 0, 1, 0);
        x.mark();
        Due.is("run(1)", x.run(1), AntFloor.EDGE);
        Due.is("road(3)", x.road(3), 0);
    }

    static void terms2_v_cornersAreCells() {
        for (int[] corner : Past.CORNERS) {
            int inward = corner[1] < 0 ? 0 : 2;
            AntFloor x = Past.straight(0, corner[0], corner[1], inward);
            x.paint(corner[0], corner[1], 1);
            x.mark();
            x.run(1);
            noRoad("a corner that was 1, behind which is 0", x, 1);
            AntFloor y = Past.straight(0, corner[0], corner[1], inward);
            y.mark();
            y.run(1);
            road("a corner that was 0", y, 1, 0, 1 - inward, 1);
        }
    }

    // ---- a ROAD: who goes on it, and when

    static void terms2_road_eachDirection() {
        for (int kind = 0; kind < 2; kind++) {
            int[][] ways = Past.ways(kind);
            for (int d = 0; d < ways.length; d++) {
                AntFloor x = Past.straight(kind, 0, 0, d);
                x.mark();
                x.run(3);
                road("kind " + kind + ", direction " + d, x, 3, 3 * ways[d][0], 3 * ways[d][1], 3);
            }
        }
    }

    static void terms2_road_noAntIsNone() {
        AntFloor x = new AntFloor();
        x.mark();
        x.run(5);
        noRoad("without ants", x, 0);
    }

    static void terms2_road_twoAntsAreNone() {
        AntFloor x = Past.straight(0, 0, 0, 0);
        x.ant(50, 0, 0, 0);
        x.mark();
        x.run(2);
        noRoad("of two ants", x, 4);
    }

    static void terms2_road_anAntNotThereAtTheMark() {
        AntFloor x = Past.straight(0, 0, 0, 0);
        x.less();
        x.mark();
        x.ant(0, 1, 0, 0);
        x.run(1);
        noRoad("of an ant that came behind the mark", x, 1);
    }

    static void terms2_road_anotherDirectionIsNone() {
        AntFloor x = new AntFloor();
        x.ant(0, 0, 0, 0);
        x.mark();
        x.run(1);
        noRoad("turned by R", x, 1);
    }

    static void terms2_road_timeNotLaterIsNone() {
        AntFloor x = Past.straight(0, 0, 0, 0);
        x.run(3);
        x.mark();
        noRoad("at the mark", x, 0);
        x.run(-2);
        noRoad("ahead of the mark", x, 0);
    }

    static void terms2_road_timeBelow0() {
        AntFloor x = new AntFloor();
        x.run(-9);
        Past.rule(x, 0, "NN");
        x.ant(0, 0, 0, 0);
        Due.is("mark()", x.mark(), -9);
        x.run(4);
        road("from -9 to -5", x, 4, 0, 4, 4);
        x.run(5);
        road("from -9 to 0", x, 9, 0, 9, 9);
    }

    static void terms2_road_oneStepIsEnough() {
        AntFloor x = Past.straight(0, 0, 0, 1);
        x.mark();
        x.run(1);
        road("one step", x, 1, 1, 0, 1);
    }

    static void terms2_road_periodIsTheStepsSinceTheMark() {
        AntFloor x = Past.straight(0, 0, 0, 1);
        x.run(6);
        x.mark();
        x.run(3);
        road("three steps behind six", x, 3, 3, 0, 3);
    }

    static void terms2_road_shift00IsNone() {
        AntFloor x = new AntFloor();
        Past.rule(x, 0, "RR");
        x.ant(0, 0, 0, 0);
        x.mark();
        x.run(8);
        Due.is("all is as it was", x.differ(), 0);
        noRoad("twice round", x, 4);
    }

    // ---- what was accepted since

    private static void behind(String what, Consumer<AntFloor> done, boolean isRoad) {
        AntFloor x = Past.straight(0, 0, 0, 0);
        Past.fill(x, 0, 0, 0, 9);
        Past.type(x, "RR");
        x.mark();
        x.run(2);
        done.accept(x);
        road("behind " + what, x, isRoad ? 2 : 0, isRoad ? 0 : -1002, isRoad ? 2 : -1002, 2);
        x.run(1);
        road("a step behind " + what, x, isRoad ? 3 : 0, isRoad ? 0 : -1002, isRoad ? 3 : -1002, 3);
    }

    static void terms2_road_aStepBackSinceIsNone() {
        behind("a step back and a step", x -> {
            x.run(-1);
            x.run(1);
        }, false);
    }

    static void terms2_road_stepsBackBeyondTheMarkAreNone() {
        AntFloor x = Past.straight(0, 0, 0, 0);
        x.mark();
        x.run(-1);
        x.run(3);
        noRoad("a step back, then steps", x, 3);
    }

    static void terms2_road_aStepBackThatWasNone() {
        AntFloor x = Past.straight(0, 0, -120, 0);
        x.mark();
        Due.is("run(-1)", x.run(-1), AntFloor.EDGE);
        x.run(2);
        road("all steps since were forwards", x, 2, 0, 2, 2);
    }

    static void terms2_road_aStepThatWasNone() {
        AntFloor x = Past.straight(0, 0, 100, 0);
        x.mark();
        Due.is("run(2000)", x.run(2000), 19);
        Due.is("run(1)", x.run(1), AntFloor.EDGE);
        road("at the edge", x, 19, 0, 19, 19);
    }

    static void terms2_road_antAndLessSinceAreNone() {
        behind("ant() and less()", x -> {
            x.ant(50, 50, 0, 0);
            x.less();
        }, false);
    }

    static void terms2_road_lessAndTheSameAntSinceAreNone() {
        behind("less() and ant()", x -> {
            x.less();
            x.ant(0, 2, 0, 0);
        }, false);
    }

    static void terms2_road_lessSinceIsNone() {
        AntFloor x = Past.straight(0, 0, 0, 0);
        x.ant(50, 50, 0, 0);
        x.mark();
        x.run(1);
        x.less();
        noRoad("one of two is left", x, 2);
        x.run(1);
        noRoad("a step behind", x, 3);
    }

    static void terms2_road_ruleSinceIsNone() {
        behind("rule() of another ant's rule", x -> Due.is("rule(3)", x.rule(3), 2), false);
    }

    static void terms2_road_paintSinceIsNone() {
        behind("paint() far off", x -> x.paint(100, -100, 1), false);
        behind("paint() of the colour that is there", x -> x.paint(100, -100, 0), false);
    }

    static void terms2_road_laySinceIsNone() {
        behind("lay() of one colour that is there", x -> Due.is("lay()", x.lay(0, 0, 0, 1, 100, 100), 1), false);
    }

    static void terms2_road_layOfNoneSinceIsOne() {
        behind("lay() of none", x -> Due.is("lay()", x.lay(0, 0, 0, 0, 100, 100), 0), true);
    }

    static void terms2_road_refusedCallsSinceAreNothing() {
        behind("ant() BAD", x -> Due.is("ant()", x.ant(0, 0, 4, 0), AntFloor.BAD), true);
        behind("rule() BAD", x -> Due.is("rule()", x.rule(4), AntFloor.BAD), true);
        behind("rule() NOT", x -> {
            x.type('X', 1);
            Due.is("rule()", x.rule(0), AntFloor.NOT);
        }, true);
        behind("paint() BAD", x -> Due.is("paint()", x.paint(0, 0, 2), AntFloor.BAD), true);
        behind("lay() BAD", x -> Due.is("lay()", x.lay(0, 0, 1, 1, 0, 0), AntFloor.BAD), true);
        behind("lay() NULL", x -> Due.is("lay()", x.lay(1, 0, 0, 1, 0, 0), AntFloor.NULL), true);
        behind("lay() INDEX", x -> Due.is("lay()", x.lay(0, 0, 2, 1, 0, 0), AntFloor.INDEX), true);
        behind("run() BAD", x -> Due.is("run()", x.run(0), AntFloor.BAD), true);
        behind("floor() BAD", x -> Due.is("floor()", x.floor(0, 13), AntFloor.BAD), true);
    }

    static void terms2_road_lessThatIsRefusedIsNothing() {
        AntFloor x = new AntFloor();
        Past.rule(x, 0, "NN");
        Due.is("less()", x.less(), AntFloor.NOT);
        x.ant(0, 0, 0, 0);
        x.mark();
        x.run(1);
        road("behind less() of none, ahead of the mark", x, 1, 0, 1, 1);
    }

    static void terms2_road_sheetsAndTheTapeAreNothing() {
        behind("sheet(), item(), copy(), drop(), type()", x -> {
            x.sheet(1, 0, 3);
            x.item(1, 0, 0, 1);
            x.copy(0, 0, 1, 1, 2);
            x.drop(1);
            x.type('R', 1);
        }, true);
    }

    // ---- the stretch that comes back shifted

    /** Four STEPS to the right from (0, 0), behind which the CELLS (at, 0) were painted. */
    private static AntFloor painted(int... at) {
        AntFloor x = Past.straight(0, 0, 0, 1);
        for (int far : at) {
            x.paint(far, 0, 1);
        }
        x.mark();
        x.run(4);
        return x;
    }

    static void terms2_road_unlikeAtK0() {
        noRoad("3 was 1, 7 is 0", painted(3), 4);
        noRoad("3 was 0, 7 is 1", painted(7), 4);
        noRoad("the first cell of V", painted(0), 4);
    }

    static void terms2_road_unlikeAtK1Alone() {
        noRoad("7 was 1, 11 is 0", painted(3, 7), 4);
    }

    static void terms2_road_unlikeAtALaterKAlone() {
        noRoad("11 was 1, 15 is 0", painted(3, 7, 11), 4);
        int[] all = new int[29];
        for (int k = 0; k < 29; k++) {
            all[k] = 3 + 4 * k;
        }
        noRoad("115 was 1, 119 is 0", painted(all), 4);
    }

    static void terms2_road_beyondTheFloorAllIs0() {
        int[] all = new int[30];
        for (int k = 0; k < 30; k++) {
            all[k] = 3 + 4 * k;
        }
        noRoad("119 was 1, 123 is 0", painted(all), 4);
        road("all chains leave the floor", painted(), 4, 4, 0, 4);
    }

    static void terms2_road_beyondASideIsNotTheNextRow() {
        AntFloor x = Past.straight(0, 0, 0, 1);
        for (int far = 3; far < 120; far += 4) {
            x.paint(far, 0, 1);
        }
        // Counted on through the rows, (-117, 1) would be (123, 0).
        x.paint(-117, 1, 1);
        x.mark();
        x.run(4);
        noRoad("119 was 1, 123 is 0", x, 4);
    }

    static void terms2_road_theLongestChain() {
        for (int way = -1; way < 2; way += 2) {
            int start = way < 0 ? 119 : -120;
            AntFloor x = Past.straight(0, start, 0, way < 0 ? 3 : 1);
            for (int k = 0; k < 240; k++) {
                x.paint(start + k * way, 0, 1);
            }
            x.mark();
            x.run(1);
            noRoad("240 cells that were 1, then 0", x, 1);
        }
    }

    static void terms2_road_ofColoursThatAreNot0() {
        AntFloor x = new AntFloor();
        x.ant(0, 0, 0, 0);
        for (int i = 0; i < 5; i++) {
            x.run(2000);
        }
        x.run(400);
        x.mark();
        x.run(103);
        Due.is("a step too few", x.road(0), 0);
        x.run(1);
        road("the highway", x, 104, -2, -2, 40);
        x.run(1);
        Due.is("a step too many", x.road(0), 0);
        x.run(103);
        Due.is("twice the period", x.road(0), 208);
        Due.is("twice the shift", x.road(1), -4);
    }

    static void terms2_road_aStoneFarAheadOfTheHighway() {
        AntFloor x = new AntFloor();
        x.ant(0, 0, 0, 0);
        for (int i = 0; i < 5; i++) {
            x.run(2000);
        }
        x.run(400);
        int ax = x.told(0, 0);
        int ay = x.told(0, 1);
        x.paint(ax - 60, ay - 60, 1);
        x.mark();
        x.run(104);
        Due.is("it would meet the stone", x.road(0), 0);
        x.paint(ax - 60, ay - 60, 0);
        x.mark();
        x.run(104);
        Due.is("the stone is gone", x.road(0), 104);
    }

    static void terms2_road_whatIsBesideOrBehindIsNothing() {
        AntFloor x = Past.straight(0, 0, 0, 1);
        x.paint(-1, 0, 1);
        x.paint(-2, 0, 1);
        x.paint(-9, 0, 1);
        x.paint(50, 1, 1);
        x.paint(50, -1, 1);
        x.mark();
        x.run(2);
        road("painted beside and behind", x, 2, 2, 0, 2);
        x.mark();
        x.run(5);
        road("behind the new mark are cells of the old V", x, 5, 5, 0, 5);
    }

    // ---- IMAGES

    private static void like(AntFloor x, int way, int a, int b, int due) {
        Due.is("like(" + way + ", " + a + ", " + b + ")", x.like(way, a, b), due);
    }

    /** Two CELLS that are each other's image by a way with a = 5, b = 9, and by no way with 0, 0. */
    private static AntFloor pair(int way) {
        int[][] images = {{5 - 1, 9 - 2}, {5 - 1, 2}, {1, 9 - 2}, {2 + 5, 1 - 5}, {5 - 2, 5 - 1}};
        AntFloor x = Past.of(0, 3);
        x.paint(1, 2, 2);
        x.paint(images[way][0], images[way][1], 2);
        return x;
    }

    static void terms3_way0_halfTurn() {
        like(pair(0), 0, 5, 9, 1);
        like(pair(0), 0, 9, 5, 0);
        like(pair(0), 0, 4, 9, 0);
        like(pair(0), 0, 5, 8, 0);
    }

    static void terms3_way0_ofSixesToo() {
        AntFloor x = Past.of(1, 2);
        x.paint(1, 2, 1);
        x.paint(4, 7, 1);
        like(x, 0, 5, 9, 1);
        like(x, 0, 5, 8, 0);
    }

    static void terms3_way1_mirrorOfX() {
        like(pair(1), 1, 5, 9, 1);
        like(pair(1), 1, 5, -300, 1);
        like(pair(1), 1, 4, 9, 0);
    }

    static void terms3_way2_mirrorOfY() {
        like(pair(2), 2, 5, 9, 1);
        like(pair(2), 2, 300, 9, 1);
        like(pair(2), 2, 5, 8, 0);
    }

    static void terms3_way3_diagonal() {
        like(pair(3), 3, 5, 9, 1);
        like(pair(3), 3, 5, 300, 1);
        like(pair(3), 3, -5, 9, 0);
    }

    static void terms3_way4_otherDiagonal() {
        like(pair(4), 4, 5, 9, 1);
        like(pair(4), 4, 5, -300, 1);
        like(pair(4), 4, 6, 9, 0);
    }

    static void terms3_theColourMustBeTheSame() {
        int[][] images = {{4, 7}, {4, 2}, {1, 7}, {7, -4}, {3, 4}};
        for (int way = 0; way < 5; way++) {
            AntFloor x = pair(way);
            x.paint(images[way][0], images[way][1], 1);
            like(x, way, 5, 9, 0);
        }
    }

    static void terms3_aCellThatIsItsOwnImage() {
        int[][] own = {{3, 4}, {3, 77}, {77, 4}, {7, 1}, {1, 5}};
        for (int way = 0; way < 5; way++) {
            AntFloor x = new AntFloor();
            x.paint(own[way][0], own[way][1], 1);
            like(x, way, 6, 8, 1);
        }
    }

    static void terms3_anEmptyFloorIsLikeByAll() {
        AntFloor x = new AntFloor();
        for (int way = 0; way < 5; way++) {
            like(x, way, -300, 300, 1);
            like(x, way, 0, 0, 1);
            like(x, way, 300, -300, 1);
        }
    }

    /** The image of a painted corner is beyond THE FLOOR by one CELL, or on it again with a or b one other. */
    static void terms3_beyondTheFloorIs0() {
        int[][] calls = {{0, 239, 238}, {0, 238, 239}, {1, 239, 0}, {2, 0, 239}, {3, 1, 0}, {3, -1, 0}, {4, 239, 0}};
        int[][] on = {{0, 238, 238}, {0, 238, 238}, {1, 238, 0}, {2, 0, 238}, {3, 0, 0}, {3, 0, 0}, {4, 238, 0}};
        for (int i = 0; i < calls.length; i++) {
            AntFloor x = new AntFloor();
            x.paint(119, 119, 1);
            like(x, calls[i][0], calls[i][1], calls[i][2], 0);
            like(x, on[i][0], on[i][1], on[i][2], 1);
        }
        AntFloor y = new AntFloor();
        y.paint(-120, -120, 1);
        like(y, 1, -241, 0, 0);
        like(y, 2, 0, -241, 0);
        like(y, 0, -240, -240, 1);
    }

    static void terms3_beyondASideIsNotTheNextRow() {
        // Counted on through the rows, each image, (-121, 1) and (120, -1), would be the CELL itself.
        AntFloor x = new AntFloor();
        x.paint(119, 0, 1);
        like(x, 0, -2, 1, 0);
        AntFloor y = new AntFloor();
        y.paint(-120, 0, 1);
        like(y, 0, 0, -1, 0);
    }

    static void terms3_aCellOf0WhoseImageIsNot0() {
        AntFloor x = new AntFloor();
        x.paint(-120, 7, 1);
        for (int way = 0; way < 5; way++) {
            like(x, way, 0, 0, 0);
        }
    }

    // ---- SHEETS

    static void termsSheets_nothingAtFirst() {
        AntFloor x = new AntFloor();
        for (int s = 0; s < 4; s++) {
            for (int lane = 0; lane < 3; lane++) {
                Due.is("item of sheet " + s, x.item(s, lane, 0, 0), AntFloor.NULL);
            }
            Due.is("drop(" + s + ")", x.drop(s), AntFloor.NULL);
        }
    }

    static void termsSheets_0To3() {
        AntFloor x = new AntFloor();
        Due.is("sheet -1", x.sheet(-1, 0, 1), AntFloor.BAD);
        for (int s = 0; s < 4; s++) {
            Due.is("sheet " + s, x.sheet(s, 0, s), s);
        }
        Due.is("sheet 4", x.sheet(4, 0, 1), AntFloor.BAD);
        for (int s = 0; s < 4; s++) {
            Due.is("each is its own", x.drop(s), s);
        }
    }

    static void termsSheets_0To60Items() {
        for (int lane = 0; lane < 3; lane++) {
            AntFloor x = new AntFloor();
            Due.is("0 items", x.sheet(0, lane, 0), 0);
            Due.is("item 0 of 0", x.item(0, lane, 0, 1), AntFloor.INDEX);
            Due.is("60 items", x.sheet(0, lane, 60), 60);
            Due.is("item 59 of 60", x.item(0, lane, 59, 1), 1);
            Due.is("item 60 of 60", x.item(0, lane, 60, 1), AntFloor.INDEX);
            Due.is("61 items", x.sheet(0, lane, 61), AntFloor.BAD);
        }
    }

    static void termsSheets_itemsAre0AtFirst() {
        for (int lane = 0; lane < 3; lane++) {
            AntFloor x = new AntFloor();
            x.sheet(0, lane, 60);
            for (int i = 0; i < 60; i++) {
                x.paint(i, 0, 1);
            }
            Due.is("lay()", x.lay(0, lane, 0, 60, 0, 0), 60);
            Due.is("all are 0", x.count(1), 0);
        }
    }

    static void termsSheets_bytesShortsIntsHaveTheirBits() {
        int[] first = {1 << 8, 1 << 16};
        for (int lane = 0; lane < 3; lane++) {
            AntFloor x = new AntFloor();
            Past.fill(x, 0, lane, 1, 1 << 7, 1 << 15, 1 << 31);
            Due.is("1 is a colour", x.lay(0, lane, 0, 1, 0, 0), 1);
            Due.is("bit 7 is one of every lane", x.lay(0, lane, 1, 1, 0, 0), AntFloor.BAD);
            Due.is("bit 15 is none of bytes", x.lay(0, lane, 2, 1, 0, 0), lane == 0 ? 1 : AntFloor.BAD);
            Due.is("bit 31 is one of ints alone", x.lay(0, lane, 3, 1, 0, 0), lane < 2 ? 1 : AntFloor.BAD);
            for (int k = 0; k < 2; k++) {
                x.item(0, lane, 0, first[k] + 1);
                Due.is("1 and " + first[k], x.lay(0, lane, 0, 1, 0, 0), lane <= k ? 1 : AntFloor.BAD);
            }
        }
    }
}
