import java.util.Arrays;

/** The boundary cases of promises 10 to 16: a case for each sentence that names one, and the calls that are refused. */
public final class PromisesOfStepsTest {
    private static final int LEAST = Past.LEAST;
    private static final int MOST = Past.MOST;
    private static final int NO_MEETING = -1000001;

    public static void main(String[] args) throws Exception {
        Cases.runAll(PromisesOfStepsTest.class);
    }

    // ---- Promise 10: run

    static void promise10_0AndBeyond2000AreBad() {
        for (int n : new int[] {0, 2001, -2001, LEAST, LEAST + 1, MOST}) {
            Due.is("run(" + n + ")", Past.straight(0, 0, 0, 0).run(n), AntFloor.BAD);
            Due.is("run(" + n + ") without ants", new AntFloor().run(n), AntFloor.BAD);
        }
    }

    static void promise10_1To2000AndBackAreTaken() {
        AntFloor x = new AntFloor();
        x.ant(0, 0, 0, 0);
        for (int n : new int[] {1, 2000, -1, -2000}) {
            Due.is("run(" + n + ")", x.run(n), Math.abs(n));
        }
        Due.is("time()", x.time(), 0);
        Due.is("count(1)", x.count(1), 0);
    }

    static void promise10_badAheadOfEdge() {
        for (int n : new int[] {0, 2001, -2001}) {
            Due.is("run(" + n + ") at the edge", Past.atTheEdge().run(n), AntFloor.BAD);
            Due.is("run(" + n + ") at the back edge", Past.atTheBackEdge().run(n), AntFloor.BAD);
        }
    }

    static void promise10_badChangesNothing() {
        for (int n : new int[] {0, 2001, -2001, LEAST, MOST}) {
            Refused.changesNothing("run(" + n + ")", Past::onARoad, x -> x.run(n), AntFloor.BAD);
        }
    }

    static void promise10_edgeChangesNothing() {
        for (int n : new int[] {1, 2, 2000}) {
            Refused.changesNothing("run(" + n + ")", Past::atTheEdge, x -> x.run(n), AntFloor.EDGE);
            Refused.changesNothing("run(-" + n + ")", Past::atTheBackEdge, x -> x.run(-n), AntFloor.EDGE);
        }
    }

    static void promise10_edgeOnlyIfNotOneCouldBeDone() {
        for (int left = 0; left < 4; left++) {
            AntFloor x = Past.straight(0, 0, 119 - left, 0);
            Due.is("run(3), " + left + " from the edge", x.run(3), left == 0 ? AntFloor.EDGE : Math.min(left, 3));
            AntFloor y = Past.straight(0, 0, -120 + left, 0);
            Due.is("run(-3), " + left + " from the edge", y.run(-3), left == 0 ? AntFloor.EDGE : Math.min(left, 3));
        }
    }

    static void promise10_noMoreThanN() {
        AntFloor x = Past.straight(0, 0, 0, 0);
        Due.is("run(7)", x.run(7), 7);
        Due.is("told(0, 1)", x.told(0, 1), 7);
        Due.is("run(-9)", x.run(-9), 9);
        Due.is("told(0, 1)", x.told(0, 1), -2);
    }

    static void promise10_withoutAntsAllAreDone() {
        AntFloor x = new AntFloor();
        for (int n : new int[] {1, 2000, -1, -2000, -2000}) {
            Due.is("run(" + n + ")", x.run(n), Math.abs(n));
        }
        Due.is("time()", x.time(), -2000);
        Due.is("count(3)", x.count(3), 0);
        AntFloor y = Past.atTheEdge();
        y.less();
        Due.is("behind less() at the edge", y.run(2000), 2000);
    }

    /** An object is used for at most 512 calls, so no run of calls makes more STEPS by much. */
    static void promise10_2000StepsByEachCallUpToThe512th() {
        AntFloor x = new AntFloor();
        Past.rule(x, 0, "UU");
        for (int i = 0; i < 6; i++) {
            x.ant(0, 0, 0, 0);
        }
        for (int call = 10; call <= 508; call++) {
            Due.is("run(2000), call " + call, x.run(2000), 2000);
        }
        Due.is("time()", x.time(), 998000);
        Due.is("count(2)", x.count(2), 998000);
        Due.is("visits(0, 0)", x.visits(0, 0), 6 * 499000);
        Due.is("meeting(59, 0), the 512th call", x.meeting(59, 0), 60);
    }

    // ---- Promise 11: time

    static void promise11_countsStepsOfAllRuns() {
        AntFloor x = new AntFloor();
        Due.is("at first", x.time(), 0);
        for (int i = 1; i <= 20; i++) {
            x.run(2000);
            Due.is("behind " + i + " runs", x.time(), 2000 * i);
        }
        for (int i = 19; i >= -20; i--) {
            x.run(-2000);
            Due.is("back to " + i + " runs", x.time(), 2000 * i);
        }
    }

    static void promise11_countsStepsThatWereDoneAlone() {
        AntFloor x = Past.straight(0, 0, 117, 0);
        x.run(2000);
        Due.is("two could be done", x.time(), 2);
        x.run(2000);
        Due.is("none could be done", x.time(), 2);
        x.run(0);
        Due.is("none was asked for", x.time(), 2);
    }

    static void promise11_antsDoNotMatter() {
        AntFloor x = Past.sixAnts();
        Due.is("five steps of six ants", x.time(), 5);
        x.less();
        x.paint(1, 1, 1);
        x.mark();
        Due.is("no other call takes time", x.time(), 5);
    }

    // ---- Promise 12: meeting

    /** Two ANTS that go one behind the other on the same CELLS: each STEP is a MEETING. */
    private static AntFloor inStep(int steps) {
        AntFloor x = Past.straight(0, -100, 7, 1);
        x.ant(-100, 7, 1, 0);
        x.run(steps);
        return x;
    }

    private static void met(String when, AntFloor x, int i, int... due) {
        for (int what = 0; what < 4; what++) {
            Due.is(when + ": meeting(" + i + ", " + what + ")", x.meeting(i, what), due[what]);
        }
    }

    static void promise12_noneIsBadLess1000000() {
        for (int what = 0; what < 4; what++) {
            Due.is("at first", new AntFloor().meeting(0, what), NO_MEETING);
        }
        AntFloor x = inStep(1);
        x.floor(0, 2);
        Due.is("behind floor()", x.meeting(0, 0), NO_MEETING);
    }

    static void promise12_iBelow0OrHowManyIsBadLess1000000() {
        AntFloor x = inStep(3);
        met("the last", x, 2, 3, -97, 7, 3);
        for (int i : new int[] {-1, 3, 59, 60, LEAST, MOST}) {
            for (int what = 0; what < 4; what++) {
                Due.is("meeting(" + i + ", " + what + ")", x.meeting(i, what), NO_MEETING);
            }
        }
    }

    static void promise12_whatBelow0OrAbove3IsBadLess1000000() {
        AntFloor x = inStep(3);
        for (int what : new int[] {-1, 4, LEAST, MOST}) {
            Due.is("meeting(0, " + what + ")", x.meeting(0, what), NO_MEETING);
        }
    }

    static void promise12_the60thIsKept() {
        AntFloor x = inStep(60);
        met("the first", x, 0, 1, -99, 7, 3);
        met("the 60th", x, 59, 60, -40, 7, 3);
        Due.is("meeting(60, 0)", x.meeting(60, 0), NO_MEETING);
    }

    static void promise12_the61stIsNotKept() {
        AntFloor x = inStep(61);
        Due.is("count(2)", x.count(2), 61);
        met("the first is kept", x, 0, 1, -99, 7, 3);
        met("the 60th is kept", x, 59, 60, -40, 7, 3);
        for (int what = 0; what < 4; what++) {
            Due.is("meeting(60, " + what + ")", x.meeting(60, what), NO_MEETING);
        }
    }

    static void promise12_the60thAndThe61stByOneStep() {
        AntFloor x = inStep(59);
        x.ant(50, -51, 0, 0);
        x.ant(50, -51, 0, 0);
        x.run(1);
        Due.is("count(2)", x.count(2), 61);
        met("the 60th", x, 59, 60, -40, 7, 3);
        Due.is("meeting(60, 0)", x.meeting(60, 0), NO_MEETING);
    }

    static void promise12_sixtyAgainSinceFloor() {
        AntFloor x = inStep(150);
        x.floor(0, 2);
        x.ant(5, 5, 0, 0);
        x.ant(5, 5, 1, 1);
        x.ant(6, 6, 0, 0);
        x.ant(6, 6, 0, 0);
        Due.is("R and L part", x.run(1), 1);
        Due.is("count(2)", x.count(2), 1);
        // From (5, 5): (6, 5), by L from right (5, 6); from (6, 6): (7, 6), (5, 6).
        met("the first since", x, 0, 1, 5, 6, 2 + 8);
        Due.is("meeting(1, 0)", x.meeting(1, 0), NO_MEETING);
    }

    static void promise12_stepsBackTakeNoneAway() {
        AntFloor x = inStep(3);
        x.run(-3);
        Due.is("count(2)", x.count(2), 3);
        met("the last", x, 2, 3, -97, 7, 3);
        x.run(1);
        Due.is("count(2)", x.count(2), 4);
        met("the first once more", x, 3, 1, -99, 7, 3);
    }

    static void promise12_numbersBelow0AreAnswersToo() {
        AntFloor x = Past.straight(0, -1, -1, 0);
        x.ant(-1, -1, 0, 0);
        x.run(-2);
        x.run(1);
        met("a meeting", x, 0, -1, -1, -2, 3);
    }

    static void promise12_changesNothing() {
        Refused.changesNothing("meeting(1, 0)", Past::onARoad, x -> x.meeting(1, 0), NO_MEETING);
        Refused.changesNothing("meeting(0, 4)", Past::onARoad, x -> x.meeting(0, 4), NO_MEETING);
        Refused.changesNothing("meeting(0, 3)", Past::onARoad, x -> x.meeting(0, 3), 7);
    }

    // ---- Promise 13: visits

    static void promise13_aCellBeyondIsBadLess10000000() {
        AntFloor x = Past.sixAnts();
        for (int[] cell : Past.BEYOND) {
            Due.is("visits" + Arrays.toString(cell), x.visits(cell[0], cell[1]), -10000001);
        }
    }

    static void promise13_cornersAreCells() {
        for (int[] corner : Past.CORNERS) {
            int inward = corner[1] < 0 ? 0 : 2;
            AntFloor x = Past.straight(0, corner[0], corner[1], inward);
            Due.is("ahead", x.visits(corner[0], corner[1]), 0);
            x.run(1);
            Due.is("behind", x.visits(corner[0], corner[1]), 1);
            Due.is("no other", x.count(3), 1);
        }
    }

    static void promise13_numbersBelow0AreAnswersToo() {
        AntFloor x = Past.straight(0, 0, 0, 0);
        x.run(-2);
        Due.is("-1", x.visits(0, -1), -1);
        Due.is("-1", x.visits(0, -2), -1);
        Due.is("0", x.visits(0, 0), 0);
        x.run(3);
        Due.is("0 again", x.visits(0, -1), 0);
        Due.is("1", x.visits(0, 0), 1);
    }

    static void promise13_manyOnOneCell() {
        AntFloor x = new AntFloor();
        Past.rule(x, 0, "UU");
        for (int i = 0; i < 6; i++) {
            x.ant(119, -119, 0, 0);
        }
        for (int i = 0; i < 40; i++) {
            Due.is("run(2000)", x.run(2000), 2000);
        }
        Due.is("each second step of six ants", x.visits(119, -119), 240000);
        Due.is("the other half", x.visits(119, -120), 240000);
    }

    static void promise13_sinceFloor() {
        AntFloor x = Past.straight(0, 0, 0, 0);
        x.run(1);
        x.floor(0, 2);
        Due.is("visits(0, 0)", x.visits(0, 0), 0);
    }

    // ---- Promise 14: count

    static void promise14_whatThatIsNoneIsBad() {
        for (int what : new int[] {-1, 6, 7, 8, 9, LEAST, MOST}) {
            Due.is("count(" + what + ")", Past.onARoad().count(what), AntFloor.BAD);
        }
    }

    static void promise14_aColourNAndAboveIsBad() {
        for (int n = 2; n <= 12; n++) {
            AntFloor x = Past.of(0, n);
            x.paint(0, 0, n - 1);
            Due.is("10 + n - 1 of n = " + n, x.count(10 + n - 1), 1);
            for (int what : new int[] {10 + n, 23, 100}) {
                Due.is("count(" + what + ") of n = " + n, x.count(what), AntFloor.BAD);
            }
        }
    }

    static void promise14_0AntsTo6() {
        AntFloor x = new AntFloor();
        for (int many = 0; many <= 6; many++) {
            Due.is("count(0)", x.count(0), many);
            x.ant(many, 0, 0, 0);
        }
        Due.is("a seventh is none", x.count(0), 6);
    }

    static void promise14_1CellsThatAreNot0() {
        AntFloor x = Past.of(0, 12);
        Due.is("none", x.count(1), 0);
        for (int c = 1; c < 12; c++) {
            x.paint(c, 0, c);
            Due.is("colours to " + c, x.count(1), c);
        }
        for (int[] corner : Past.CORNERS) {
            x.paint(corner[0], corner[1], 5);
        }
        Due.is("corners too", x.count(1), 15);
        x.paint(1, 0, 0);
        Due.is("one less", x.count(1), 14);
    }

    static void promise14_2MeetingsThatAreNotKeptToo() {
        AntFloor x = inStep(200);
        Due.is("count(2)", x.count(2), 200);
    }

    static void promise14_3CellsWithVisitsBelow0Too() {
        AntFloor x = Past.straight(0, 0, 0, 0);
        x.run(-3);
        Due.is("three below 0", x.count(3), 3);
        x.run(4);
        Due.is("one above 0, the others 0 again", x.count(3), 1);
    }

    static void promise14_3CornersAreCells() {
        for (int[] corner : Past.CORNERS) {
            AntFloor x = Past.straight(0, corner[0], corner[1], corner[1] < 0 ? 0 : 2);
            x.run(1);
            Due.is("count(3)", x.count(3), 1);
        }
    }

    static void promise14_4And5NAndKind() {
        for (int kind = 0; kind < 2; kind++) {
            for (int n = 2; n <= 12; n++) {
                AntFloor x = Past.of(kind, n);
                Due.is("count(4)", x.count(4), n);
                Due.is("count(5)", x.count(5), kind);
            }
        }
    }

    static void promise14_10TheCellsOf0() {
        AntFloor x = Past.of(1, 3);
        Due.is("all", x.count(10), 57600);
        x.paint(-120, -120, 1);
        x.paint(119, 119, 2);
        x.paint(0, 0, 2);
        Due.is("all but three", x.count(10), 57597);
        Due.is("count(11)", x.count(11), 1);
        Due.is("count(12)", x.count(12), 2);
    }

    static void promise14_changesNothing() {
        Refused.changesNothing("count(9)", Past::onARoad, x -> x.count(9), AntFloor.BAD);
        Refused.changesNothing("count(14)", Past::onARoad, x -> x.count(14), AntFloor.BAD);
        Refused.changesNothing("count(0)", Past::onARoad, x -> x.count(0), 1);
    }

    // ---- Promise 15: bounds

    private static void bounds(String when, AntFloor x, int... due) {
        for (int what = 0; what < 4; what++) {
            Due.is(when + ": bounds(" + what + ")", x.bounds(what), due[what]);
        }
    }

    static void promise15_ofNoneIsBadLess1000() {
        AntFloor x = new AntFloor();
        bounds("at first", x, -1001, -1001, -1001, -1001);
        x.paint(3, 3, 1);
        x.paint(3, 3, 0);
        x.ant(3, 3, 0, 0);
        bounds("painted and 0 again", x, -1001, -1001, -1001, -1001);
    }

    static void promise15_whatBelow0OrAbove3IsBadLess1000() {
        AntFloor x = new AntFloor();
        for (int what : new int[] {-1, 4, LEAST, MOST}) {
            Due.is("bounds(" + what + ") of none", x.bounds(what), -1001);
        }
        x.paint(3, 3, 1);
        for (int what : new int[] {-1, 4, LEAST, MOST}) {
            Due.is("bounds(" + what + ")", x.bounds(what), -1001);
        }
    }

    static void promise15_ofOneCell() {
        AntFloor x = Past.of(0, 12);
        x.paint(-1, -2, 11);
        bounds("one cell", x, -1, -1, -2, -2);
    }

    static void promise15_ofEachCorner() {
        for (int[] corner : Past.CORNERS) {
            AntFloor x = new AntFloor();
            x.paint(corner[0], corner[1], 1);
            bounds("a corner", x, corner[0], corner[0], corner[1], corner[1]);
            x.paint(0, 0, 1);
            bounds("a corner and the middle", x, Math.min(corner[0], 0), Math.max(corner[0], 0),
                Math.min(corner[1], 0), Math.max(corner[1], 0));
        }
    }

    static void promise15_eachSideByAnotherCell() {
        AntFloor x = Past.of(1, 3);
        x.paint(-7, 2, 1);
        x.paint(9, 1, 2);
        x.paint(3, -5, 1);
        x.paint(4, 60, 2);
        bounds("four cells", x, -7, 9, -5, 60);
        x.paint(-7, 2, 0);
        bounds("one less", x, 3, 9, -5, 60);
        x.paint(4, 60, 0);
        bounds("two less", x, 3, 9, -5, 1);
    }

    static void promise15_changesNothing() {
        Refused.changesNothing("bounds(4)", Past::onARoad, x -> x.bounds(4), -1001);
        Refused.changesNothing("bounds(0)", Past::onARoad, x -> x.bounds(0), -7);
    }

    // ---- Promise 16: digest

    /** The document's sum over a floor that is 0 but for some places, told from (-120, 119) on, then over numbers. */
    private static long digest(int[][] places, int... behind) {
        long h = 7;
        for (int i = 0; i < 57600; i++) {
            int c = 0;
            for (int[] place : places) {
                c = place[0] == i ? place[1] : c;
            }
            h = 31 * h + c;
        }
        for (int each : behind) {
            h = 31 * h + each;
        }
        return h;
    }

    static void promise16_ofAnEmptyFloor() {
        Due.is("digest()", new AntFloor().digest(), digest(new int[0][]));
        Due.is("digest() of sixes", Past.of(1, 12).digest(), digest(new int[0][]));
    }

    static void promise16_cornersInTheirOrder() {
        int[][] cells = {{-120, 119}, {119, 119}, {-120, 118}, {119, 118}, {-120, -120}, {119, -120}};
        int[] places = {0, 239, 240, 479, 57360, 57599};
        for (int i = 0; i < cells.length; i++) {
            AntFloor x = Past.of(0, 12);
            x.paint(cells[i][0], cells[i][1], 11);
            Due.is("digest() of " + Arrays.toString(cells[i]), x.digest(), digest(new int[][] {{places[i], 11}}));
        }
    }

    static void promise16_antsInTheirOrder() {
        AntFloor x = Past.of(1, 3);
        x.paint(-119, 119, 2);
        int[][] one = {{1, 2}};
        x.ant(-120, 119, 5, 3);
        Due.is("one ant", x.digest(), digest(one, -120, 119, 5, 3));
        x.ant(0, 1, 2, 0);
        Due.is("two ants", x.digest(), digest(one, -120, 119, 5, 3, 0, 1, 2, 0));
        for (int i = 2; i < 6; i++) {
            x.ant(i, -i, i - 1, i - 2);
        }
        Due.is("six ants", x.digest(), digest(one, -120, 119, 5, 3, 0, 1, 2, 0, 2, -2, 1, 0, 3, -3, 2, 1, 4, -4, 3, 2,
            5, -5, 4, 3));
        x.less();
        Due.is("the last is gone", x.digest(), digest(one, -120, 119, 5, 3, 0, 1, 2, 0, 2, -2, 1, 0, 3, -3, 2, 1, 4, -4,
            3, 2));
    }

    static void promise16_ofNothingElse() {
        AntFloor x = new AntFloor();
        x.ant(0, 0, 0, 0);
        long before = x.digest();
        x.run(5);
        x.run(-5);
        x.mark();
        Past.fill(x, 0, 0, 1, 2);
        Past.type(x, "UU");
        x.rule(1);
        Past.type(x, "U");
        Due.is("time, the mark, sheets, the tape, rules", x.digest(), before);
        AntFloor y = new AntFloor();
        y.run(9);
        Due.is("time", y.digest(), new AntFloor().digest());
    }

    static void promise16_changesNothing() {
        long due = Past.onARoad().digest();
        Refused.changesNothing("digest()", Past::onARoad, x -> x.digest(), due);
    }
}
