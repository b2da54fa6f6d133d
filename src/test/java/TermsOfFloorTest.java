import java.util.Arrays;

/** The boundary cases in 'Terms', 1 THE FLOOR: a case for each sentence that names one. */
public final class TermsOfFloorTest {
    public static void main(String[] args) throws Exception {
        Cases.runAll(TermsOfFloorTest.class);
    }

    private static void at(String when, AntFloor x, int ant, int... due) {
        for (int what = 0; what < due.length; what++) {
            Due.is(when + ": told(" + ant + ", " + what + ")", x.told(ant, what), due[what]);
        }
    }

    private static void metAt(AntFloor x, int i, int... due) {
        for (int what = 0; what < 4; what++) {
            Due.is("meeting(" + i + ", " + what + ")", x.meeting(i, what), due[what]);
        }
    }

    static void terms0_answersBelow0HaveTheirNumbers() {
        int[] got = {AntFloor.BAD, AntFloor.NOT, AntFloor.FULL, AntFloor.EDGE, AntFloor.NULL, AntFloor.CAST,
            AntFloor.INDEX, AntFloor.SIZE};
        int[] due = {-1, -2, -3, -4, -11, -12, -13, -14};
        for (int i = 0; i < due.length; i++) {
            Due.is("constant " + i, got[i], due[i]);
        }
    }

    // ---- CELLS, COLOURS, kinds

    static void terms1_cells_minus120And119AreCells() {
        for (int[] corner : Past.CORNERS) {
            AntFloor x = new AntFloor();
            String where = Arrays.toString(corner);
            Due.is("colour " + where, x.colour(corner[0], corner[1]), 0);
            Due.is("paint " + where, x.paint(corner[0], corner[1], 1), 0);
            Due.is("painted " + where, x.colour(corner[0], corner[1]), 1);
            Due.is("visits " + where, x.visits(corner[0], corner[1]), 0);
            Due.is("ant " + where, x.ant(corner[0], corner[1], 0, 0), 0);
            Due.is("no other is painted", x.count(1), 1);
        }
    }

    static void terms1_cells_minus121And120AreNone() {
        AntFloor x = new AntFloor();
        x.sheet(0, 0, 1);
        for (int[] cell : Past.BEYOND) {
            String where = Arrays.toString(cell);
            Due.is("colour " + where, x.colour(cell[0], cell[1]), AntFloor.BAD);
            Due.is("paint " + where, x.paint(cell[0], cell[1], 1), AntFloor.BAD);
            Due.is("visits " + where, x.visits(cell[0], cell[1]), -10000001);
            Due.is("ant " + where, x.ant(cell[0], cell[1], 0, 0), AntFloor.BAD);
            Due.is("lay " + where, x.lay(0, 0, 0, 1, cell[0], cell[1]), AntFloor.BAD);
        }
        Due.is("nothing is painted", x.count(1), 0);
    }

    static void terms1_colours_twoAtFirst() {
        AntFloor x = new AntFloor();
        Due.is("count(4)", x.count(4), 2);
        Due.is("paint of 1", x.paint(0, 0, 1), 0);
        Due.is("paint of 2", x.paint(0, 0, 2), AntFloor.BAD);
    }

    static void terms1_colours_0ToNLess1() {
        for (int n = 2; n <= 12; n++) {
            AntFloor x = Past.of(0, n);
            Due.is("paint of -1, n = " + n, x.paint(1, 1, -1), AntFloor.BAD);
            Due.is("paint of n - 1, n = " + n, x.paint(1, 1, n - 1), 0);
            Due.is("paint of n, n = " + n, x.paint(1, 1, n), AntFloor.BAD);
            Due.is("paint of 0, n = " + n, x.paint(1, 1, 0), n - 1);
        }
    }

    static void terms1_colours_all0AtFirst() {
        AntFloor x = new AntFloor();
        Due.is("count(1)", x.count(1), 0);
        Due.is("count(10)", x.count(10), 240 * 240);
        Due.is("count(11)", x.count(11), 0);
    }

    static void terms1_kind_squaresAtFirst() {
        AntFloor x = new AntFloor();
        Due.is("count(5)", x.count(5), 0);
        Due.is("direction 3", x.ant(0, 0, 3, 0), 0);
        Due.is("direction 4", x.ant(0, 0, 4, 0), AntFloor.BAD);
        Due.is("like by way 1", x.like(1, 0, 0), 1);
    }

    static void terms1_directions_ofSquares() {
        directions(0);
    }

    static void terms1_directions_ofSixes() {
        directions(1);
    }

    private static void directions(int kind) {
        int[][] ways = Past.ways(kind);
        for (int d = 0; d < ways.length; d++) {
            AntFloor x = Past.straight(kind, 10, 20, d);
            Due.is("run(1)", x.run(1), 1);
            at("direction " + d, x, 0, 10 + ways[d][0], 20 + ways[d][1], d, 0);
        }
        Due.is("one direction more", Past.of(kind, 2).ant(0, 0, ways.length, 0), AntFloor.BAD);
    }

    // ---- RULES

    static void terms1_rules_0To3() {
        for (int r = 0; r < 4; r++) {
            Due.is("rule(" + r + ")", Past.rule(new AntFloor(), r, "NN"), 2);
            Due.is("an ant of rule " + r, new AntFloor().ant(0, 0, 0, r), 0);
        }
        for (int r : new int[] {-1, 4, Past.LEAST, Past.MOST}) {
            Due.is("rule(" + r + ")", Past.rule(new AntFloor(), r, "NN"), AntFloor.BAD);
            Due.is("an ant of rule " + r, new AntFloor().ant(0, 0, 0, r), AntFloor.BAD);
        }
    }

    static void terms1_rules_RAndLByTurnsAtFirst() {
        AntFloor x = new AntFloor();
        for (int r = 0; r < 4; r++) {
            Due.is("rule " + r + " at 0 is R", Past.turned(x, r, 0, 0), 1);
            Due.is("rule " + r + " at 1 is L", Past.turned(x, r, 0, 1), 3);
        }
    }

    static void terms1_letters_oneForEachColour() {
        AntFloor x = Past.of(1, 12);
        Due.is("rule(1)", Past.rule(x, 1, "NRSUMLLMUSRN"), 12);
        int[] due = {0, 1, 2, 3, 4, 5, 5, 4, 3, 2, 1, 0};
        for (int c = 0; c < 12; c++) {
            Due.is("letter " + c, Past.turned(x, 1, 0, c), due[c]);
        }
    }

    static void terms1_letters_turnRoundOfSquares() {
        turnRound(0, "NRUL");
    }

    static void terms1_letters_turnRoundOfSixes() {
        turnRound(1, "NRSUML");
    }

    /** Letter k of these turns by k directions, the last one behind direction 0. */
    private static void turnRound(int kind, String letters) {
        int round = letters.length();
        for (int k = 0; k < round; k++) {
            AntFloor x = Past.of(kind, 2);
            Past.rule(x, 0, letters.charAt(k) + "N");
            for (int d = 0; d < round; d++) {
                Due.is(letters.charAt(k) + " from " + d, Past.turned(x, 0, d, 0), (d + k) % round);
            }
        }
    }

    static void terms1_letters_turnRoundBackOfSquares() {
        turnRoundBack(0, "NRUL");
    }

    static void terms1_letters_turnRoundBackOfSixes() {
        turnRoundBack(1, "NRSUML");
    }

    private static void turnRoundBack(int kind, String letters) {
        int round = letters.length();
        for (int k = 0; k < round; k++) {
            for (int d = 0; d < round; d++) {
                AntFloor x = Past.of(kind, 2);
                // The CELL it came from is 0, so it was 1.
                Past.rule(x, 0, "N" + letters.charAt(k));
                x.ant(0, 0, d, 0);
                Due.is("run(-1)", x.run(-1), 1);
                Due.is(letters.charAt(k) + " back to " + d, x.told(0, 2), (d - k + round) % round);
            }
        }
    }

    static void terms1_letters_SAndMAreOfSixesAlone() {
        for (String letters : new String[] {"SN", "NS", "MN", "NM"}) {
            Due.is(letters + " of squares", Past.rule(Past.of(0, 2), 0, letters), AntFloor.NOT);
            Due.is(letters + " of sixes", Past.rule(Past.of(1, 2), 0, letters), 2);
        }
    }

    // ---- ANTS, ACTS, STEPS

    static void terms1_ants_0To5() {
        AntFloor x = new AntFloor();
        for (int i = 0; i < 6; i++) {
            Due.is("ant " + i, x.ant(i, 0, 0, 0), i);
        }
        Due.is("a seventh", x.ant(6, 0, 0, 0), AntFloor.FULL);
        Due.is("told(5, 0)", x.told(5, 0), 5);
        Due.is("told(6, 0)", x.told(6, 0), -1001);
    }

    static void terms1_act_lastColourBecomes0() {
        for (int n = 2; n <= 12; n++) {
            AntFloor x = Past.of(0, n);
            x.ant(0, 0, 0, 0);
            x.ant(50, 0, 0, 0);
            x.paint(0, 0, n - 1);
            x.paint(50, 0, n - 2);
            x.run(1);
            Due.is("n - 1, n = " + n, x.colour(0, 0), 0);
            Due.is("n - 2, n = " + n, x.colour(50, 0), n - 1);
        }
    }

    static void terms1_act_turnsByTheColourItFinds() {
        AntFloor x = Past.of(0, 3);
        Past.rule(x, 0, "NRU");
        for (int c = 0; c < 3; c++) {
            Due.is("at " + c, Past.turned(x, 0, 0, c), c);
        }
    }

    static void terms1_act_goesAheadInTheNewDirection() {
        AntFloor x = new AntFloor();
        x.ant(0, 0, 0, 0);
        x.run(1);
        at("R from up", x, 0, 1, 0, 1, 0);
    }

    static void terms1_step_ants0FirstOnOneCell() {
        AntFloor x = new AntFloor();
        x.ant(0, 0, 0, 0);
        x.ant(0, 0, 0, 0);
        Due.is("run(1)", x.run(1), 1);
        at("the first finds 0", x, 0, 1, 0, 1);
        at("the second finds 1", x, 1, -1, 0, 3);
        Due.is("1 became 0", x.colour(0, 0), 0);
    }

    static void terms1_step_leavingOfSquaresIsEdge() {
        int[][] starts = {{0, 119, 0}, {119, 0, 1}, {0, -120, 2}, {-120, 0, 3}};
        for (int[] s : starts) {
            edge(0, s, 1, 1);
        }
    }

    static void terms1_step_leavingOfSixesIsEdge() {
        int[][] starts = {{119, 0, 0}, {0, 119, 1}, {0, 119, 2}, {-120, 0, 2}, {-120, 0, 3}, {0, -120, 4}, {0, -120, 5},
            {119, 0, 5}};
        for (int[] s : starts) {
            edge(1, s, 1, 1);
        }
    }

    static void terms1_back_leavingOfSquaresIsEdge() {
        int[][] starts = {{0, -120, 0}, {-120, 0, 1}, {0, 119, 2}, {119, 0, 3}};
        for (int[] s : starts) {
            edge(0, s, -1, -1);
        }
    }

    static void terms1_back_leavingOfSixesIsEdge() {
        int[][] starts = {{-120, 0, 0}, {0, -120, 1}, {0, -120, 2}, {119, 0, 2}, {119, 0, 3}, {0, 119, 4}, {0, 119, 5},
            {-120, 0, 5}};
        for (int[] s : starts) {
            edge(1, s, -1, -1);
        }
    }

    /** From one CELL before the edge one STEP (BACK) can be done, at the edge none. */
    private static void edge(int kind, int[] start, int way, int time) {
        int d = start[2];
        int[] by = Past.ways(kind)[d];
        String from = Arrays.toString(start);
        AntFloor x = Past.straight(kind, start[0] - way * by[0], start[1] - way * by[1], d);
        Due.is("to the edge " + from, x.run(way), 1);
        at("at the edge", x, 0, start[0], start[1], d);
        long before = x.digest();
        Due.is("at the edge " + from, x.run(way), AntFloor.EDGE);
        Due.is("nothing is done " + from, x.digest(), before);
        Due.is("time() " + from, x.time(), time);
        Due.is("count(3) " + from, x.count(3), 1);
    }

    static void terms1_step_alongTheEdgeIsDone() {
        int[][] starts = {{-120, -120, 0}, {-120, 119, 1}, {119, 119, 2}, {119, -120, 3}};
        for (int[] s : starts) {
            AntFloor x = Past.straight(0, s[0], s[1], s[2]);
            Due.is("along the edge " + Arrays.toString(s), x.run(2000), 239);
            Due.is("back along the edge " + Arrays.toString(s), x.run(-2000), 239);
        }
    }

    static void terms1_step_theWayIsTheOneBehindTheTurn() {
        AntFloor x = new AntFloor();
        x.ant(119, 0, 1, 0);
        Due.is("heading for the edge it turns away", x.run(1), 1);
        AntFloor y = new AntFloor();
        y.ant(119, 0, 0, 0);
        Due.is("heading along the edge it turns out", y.run(1), AntFloor.EDGE);
    }

    /** Two ANTS on one CELL find unlike letters; one is alone, one cannot go on, one is behind that. */
    private static AntFloor fourthLeaves() {
        AntFloor x = Past.of(0, 3);
        Past.rule(x, 0, "NNN");
        Past.type(x, "UL");
        x.paint(0, 0, 1);
        x.ant(0, 0, 0, 1);
        x.ant(0, 0, 1, 1);
        x.ant(0, 1, 2, 0);
        x.ant(5, 119, 0, 0);
        x.ant(5, 118, 0, 0);
        x.mark();
        return x;
    }

    static void terms1_step_nothingOfARefusedStepIsDone() {
        Refused.changesNothing("run(1)", TermsOfFloorTest::fourthLeaves, x -> x.run(1), AntFloor.EDGE);
        Refused.changesNothing("run(2000)", TermsOfFloorTest::fourthLeaves, x -> x.run(2000), AntFloor.EDGE);
    }

    static void terms1_step_theLastAntAloneLeaves() {
        AntFloor x = Past.straight(0, 0, 0, 0);
        for (int i = 1; i < 5; i++) {
            x.ant(10 * i, 0, 0, 0);
        }
        x.ant(119, 7, 1, 0);
        long before = x.digest();
        Due.is("run(1)", x.run(1), AntFloor.EDGE);
        Due.is("digest()", x.digest(), before);
        Due.is("count(3)", x.count(3), 0);
        x.less();
        Due.is("without it", x.run(1), 1);
    }

    static void terms1_step_earlierStepsOfTheRunStay() {
        AntFloor x = Past.straight(0, 0, 117, 0);
        Due.is("run(5)", x.run(5), 2);
        at("at the edge", x, 0, 0, 119, 0);
        Due.is("time()", x.time(), 2);
        Due.is("run(-200)", x.run(-200), 200);
        Due.is("run(-200)", x.run(-200), 39);
        at("at the other edge", x, 0, 0, -120, 0);
        Due.is("time()", x.time(), -237);
    }

    static void terms1_time_0AtFirst() {
        Due.is("time()", new AntFloor().time(), 0);
    }

    static void terms1_time_oneMoreByAStepOneLessByAStepBack() {
        AntFloor x = Past.straight(0, 0, 0, 0);
        x.ant(50, 50, 0, 0);
        x.run(1);
        Due.is("behind a step", x.time(), 1);
        x.run(-1);
        Due.is("behind a step back", x.time(), 0);
        x.run(-1);
        Due.is("ahead of the beginning", x.time(), -1);
        x.run(1);
        Due.is("at the beginning again", x.time(), 0);
    }

    // ---- ACTS BACK, STEPS BACK

    static void terms1_back_0BecomesTheLastColour() {
        for (int n = 2; n <= 12; n++) {
            AntFloor x = Past.of(0, n);
            x.ant(0, 0, 0, 0);
            x.ant(50, 0, 0, 0);
            x.paint(50, -1, n - 1);
            Due.is("run(-1)", x.run(-1), 1);
            Due.is("0 becomes, n = " + n, x.colour(0, -1), n - 1);
            Due.is("n - 1 becomes, n = " + n, x.colour(50, -1), n - 2);
        }
    }

    static void terms1_back_goesAgainstTheDirectionAheadOfTheTurn() {
        AntFloor x = new AntFloor();
        x.ant(0, 0, 0, 0);
        x.run(-1);
        at("0 was 1, which is L", x, 0, 0, -1, 1, 0);
    }

    static void terms1_back_turnsByWhatTheCellIsThen() {
        for (int c = 0; c < 2; c++) {
            AntFloor x = new AntFloor();
            Past.rule(x, 0, "RN");
            x.paint(0, -1, c);
            x.ant(0, 0, 0, 0);
            x.run(-1);
            Due.is("the cell was " + c, x.told(0, 2), c == 0 ? 0 : 3);
        }
    }

    static void terms1_back_lastAntFirst() {
        AntFloor x = new AntFloor();
        Past.rule(x, 0, "RN");
        x.ant(0, 0, 0, 0);
        x.ant(0, 0, 0, 0);
        Due.is("run(-1)", x.run(-1), 1);
        at("the last finds 0, which was 1", x, 1, 0, -1, 0);
        at("the first finds 1, which was 0", x, 0, 0, -1, 3);
        Due.is("0 it is again", x.colour(0, -1), 0);
    }

    /** The middle one of five came from beyond; the two behind it act back on one CELL, by unlike letters. */
    private static AntFloor thirdCameFromBeyond() {
        AntFloor x = Past.of(0, 3);
        Past.rule(x, 0, "NNN");
        Past.type(x, "UL");
        x.paint(0, 0, 2);
        x.ant(70, 70, 0, 1);
        x.ant(0, 2, 2, 0);
        x.ant(-120, 50, 1, 0);
        x.ant(0, 1, 0, 1);
        x.ant(1, 0, 1, 1);
        x.mark();
        return x;
    }

    static void terms1_back_nothingOfARefusedStepBackIsDone() {
        Refused.changesNothing("run(-1)", TermsOfFloorTest::thirdCameFromBeyond, x -> x.run(-1), AntFloor.EDGE);
        Refused.changesNothing("run(-2000)", TermsOfFloorTest::thirdCameFromBeyond, x -> x.run(-2000), AntFloor.EDGE);
    }

    static void terms1_back_theFirstAntAloneCameFromBeyond() {
        AntFloor x = Past.straight(0, 7, -120, 0);
        for (int i = 1; i < 6; i++) {
            x.ant(10 * i, 0, 0, 0);
        }
        long before = x.digest();
        Due.is("run(-1)", x.run(-1), AntFloor.EDGE);
        Due.is("digest()", x.digest(), before);
        Due.is("count(3)", x.count(3), 0);
    }

    static void terms1_back_beyondTheBeginning() {
        AntFloor x = new AntFloor();
        x.ant(0, 0, 0, 0);
        long before = x.digest();
        Due.is("run(-300)", x.run(-300), 300);
        Due.is("time()", x.time(), -300);
        Due.is("run(300)", x.run(300), 300);
        Due.is("all is as it was", x.digest(), before);
        Due.is("no visits are left", x.count(3), 0);
    }

    static void terms1_back_undoesStepsOfSeveralAnts() {
        AntFloor x = Past.of(1, 5);
        Past.rule(x, 0, "SLMRU");
        Past.rule(x, 1, "RRLLN");
        x.paint(1, 1, 4);
        x.ant(0, 0, 0, 0);
        x.ant(1, 0, 3, 1);
        x.ant(0, 1, 5, 2);
        x.ant(0, 1, 5, 2);
        long before = x.digest();
        Due.is("run(40)", x.run(40), 40);
        Due.isTrue("all is different", x.digest() != before);
        Due.is("run(-40)", x.run(-40), 40);
        Due.is("all is as it was", x.digest(), before);
        Due.is("no visits are left", x.count(3), 0);
    }

    // ---- MEETINGS

    /** ANTS that never turn, each of which comes to (0, 0) by its one STEP, or is alone. */
    private static AntFloor comeTogether(int many) {
        AntFloor x = Past.of(0, 2);
        Past.rule(x, 0, "NN");
        for (int i = 0; i < many; i++) {
            int[] way = Past.WAYS_OF_SQUARES[i % 4];
            x.ant(-way[0], -way[1], i % 4, 0);
        }
        return x;
    }

    static void terms1_meeting_oneAntIsNone() {
        AntFloor x = comeTogether(1);
        x.run(1);
        Due.is("count(2)", x.count(2), 0);
    }

    static void terms1_meeting_twoToSixAnts() {
        for (int many = 2; many <= 6; many++) {
            AntFloor x = comeTogether(many);
            x.run(1);
            Due.is("one meeting of " + many, x.count(2), 1);
            metAt(x, 0, 1, 0, 0, (1 << many) - 1);
        }
    }

    static void terms1_meeting_bitsAreOfThoseThereAlone() {
        AntFloor x = Past.straight(0, 50, 50, 0);
        x.ant(0, -1, 0, 0);
        x.ant(60, 60, 0, 0);
        x.ant(1, 0, 3, 0);
        x.ant(70, 70, 0, 0);
        x.ant(-1, 0, 1, 0);
        x.run(1);
        Due.is("count(2)", x.count(2), 1);
        metAt(x, 0, 1, 0, 0, 2 + 8 + 32);
    }

    static void terms1_meeting_oneForEachCellByItsLeastAnt() {
        AntFloor x = Past.straight(0, 0, -1, 0);
        x.ant(50, -51, 0, 0);
        x.ant(-60, 59, 0, 0);
        x.ant(1, 0, 3, 0);
        x.ant(-59, 60, 3, 0);
        x.ant(51, -50, 3, 0);
        x.run(1);
        Due.is("count(2)", x.count(2), 3);
        metAt(x, 0, 1, 0, 0, 1 + 8);
        metAt(x, 1, 1, 50, -50, 2 + 32);
        metAt(x, 2, 1, -60, 60, 4 + 16);
    }

    static void terms1_meeting_cellsOfOneRowOrColumnAreApart() {
        AntFloor x = Past.straight(0, 0, 0, 0);
        x.ant(1, 0, 0, 0);
        x.ant(0, 1, 0, 0);
        x.run(1);
        Due.is("count(2)", x.count(2), 0);
    }

    static void terms1_meeting_notByAStepBack() {
        AntFloor x = Past.straight(0, 0, 1, 0);
        x.ant(1, 0, 1, 0);
        Due.is("back to one cell", x.run(-1), 1);
        at("the first", x, 0, 0, 0);
        at("the second", x, 1, 0, 0);
        Due.is("count(2)", x.count(2), 0);
    }

    static void terms1_meeting_notByPuttingAnts() {
        AntFloor x = Past.straight(0, 0, 0, 0);
        x.ant(0, 0, 1, 0);
        Due.is("count(2)", x.count(2), 0);
        x.run(1);
        Due.is("behind the step they are apart", x.count(2), 0);
    }

    static void terms1_meeting_notByPassingEachOther() {
        AntFloor x = Past.straight(0, 0, 0, 0);
        x.ant(0, 1, 2, 0);
        x.run(1);
        at("the first", x, 0, 0, 1);
        at("the second", x, 1, 0, 0);
        Due.is("count(2)", x.count(2), 0);
    }

    static void terms1_meeting_notByARefusedStep() {
        AntFloor x = comeTogether(2);
        x.ant(119, 50, 1, 0);
        Due.is("run(1)", x.run(1), AntFloor.EDGE);
        Due.is("count(2)", x.count(2), 0);
    }

    static void terms1_meeting_behindEachStepAgain() {
        AntFloor x = Past.straight(0, 0, 0, 0);
        x.ant(0, 0, 0, 0);
        x.run(3);
        Due.is("count(2)", x.count(2), 3);
        for (int i = 0; i < 3; i++) {
            metAt(x, i, i + 1, 0, i + 1, 3);
        }
    }

    static void terms1_meeting_timeBelow0() {
        AntFloor x = Past.straight(0, 0, 0, 0);
        x.ant(0, 0, 0, 0);
        x.run(-4);
        Due.is("none yet", x.count(2), 0);
        x.run(1);
        metAt(x, 0, -3, 0, -3, 3);
    }

    // ---- VISITS

    static void terms1_visits_eachActThatBeganCounts() {
        AntFloor x = Past.straight(0, 0, 0, 0);
        x.ant(0, 0, 1, 0);
        x.ant(0, -1, 0, 0);
        x.run(1);
        Due.is("two acts", x.visits(0, 0), 2);
        Due.is("one act", x.visits(0, -1), 1);
        x.run(1);
        Due.is("a third behind", x.visits(0, 0), 3);
    }

    static void terms1_visits_notOfTheCellOneComesTo() {
        AntFloor x = Past.straight(0, 0, 0, 0);
        Due.is("not by ant()", x.visits(0, 0), 0);
        x.run(1);
        Due.is("where it stands now", x.visits(0, 1), 0);
        Due.is("count(3)", x.count(3), 1);
    }

    static void terms1_visits_anActBackIsOneLessWhereItEnds() {
        AntFloor x = Past.straight(0, 0, 0, 0);
        x.run(2);
        x.run(-1);
        Due.is("where it ended", x.visits(0, 1), 0);
        Due.is("where it did not end", x.visits(0, 0), 1);
    }

    static void terms1_visits_belowZero() {
        AntFloor x = Past.straight(0, 0, 0, 0);
        x.ant(0, 0, 0, 0);
        x.run(-1);
        Due.is("two acts back", x.visits(0, -1), -2);
        Due.is("not where they began", x.visits(0, 0), 0);
    }

    static void terms1_visits_notByARefusedStepOrStepBack() {
        AntFloor x = comeTogether(2);
        x.ant(119, 119, 1, 0);
        x.run(1);
        Due.is("a refused step", x.count(3), 0);
        AntFloor y = Past.straight(0, -120, 5, 1);
        y.ant(0, 0, 0, 0);
        y.run(-1);
        Due.is("a refused step back", y.count(3), 0);
    }
}
