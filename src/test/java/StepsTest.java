/** Promises 10 to 16: run, time, meeting, visits, count, bounds, digest. */
public final class StepsTest {
    private static final int LEAST = Integer.MIN_VALUE;
    private static final int MOST = Integer.MAX_VALUE;

    public static void main(String[] args) {
        runWrong();
        runWithoutAnts();
        waysOfSquares();
        waysOfSixes();
        colourGoesRound();
        oneBehindTheOther();
        backIsTheWayBack();
        backBeyondTheBeginning();
        edgeAhead();
        edgeBack();
        edgeOfALaterAnt();
        meetings();
        meetingsOfSeveral();
        sixtyMeetingsAreKept();
        visits();
        counts();
        bounds();
        digest();
        Due.end();
    }

    private static void runWrong() {
        AntFloor x = new AntFloor();
        x.ant(0, 0, 0, 0);
        for (int n : new int[] {0, 2001, -2001, LEAST, MOST}) {
            Due.is("run(" + n + ")", x.run(n), AntFloor.BAD);
        }
        Due.is("time()", x.time(), 0);
        Due.is("run(2000)", x.run(2000), 2000);
        Due.is("run(-2000)", x.run(-2000), 2000);
        Due.is("time()", x.time(), 0);
        Due.is("count(1)", x.count(1), 0);
    }

    private static void runWithoutAnts() {
        AntFloor x = new AntFloor();
        Due.is("run(2000)", x.run(2000), 2000);
        Due.is("run(1)", x.run(1), 1);
        Due.is("time()", x.time(), 2001);
        Due.is("run(-2000)", x.run(-2000), 2000);
        Due.is("run(-2)", x.run(-2), 2);
        Due.is("time()", x.time(), -1);
        Due.is("no visits", x.count(3), 0);
    }

    private static void waysOfSquares() {
        int[][] way = {{0, 1}, {1, 0}, {0, -1}, {-1, 0}};
        for (int d = 0; d < 4; d++) {
            AntFloor x = new AntFloor();
            FloorTest.rule(x, 0, "NN");
            x.ant(10, 20, d, 0);
            Due.is("run(3)", x.run(3), 3);
            Due.is("x by " + d, x.told(0, 0), 10 + 3 * way[d][0]);
            Due.is("y by " + d, x.told(0, 1), 20 + 3 * way[d][1]);
            Due.is("run(-5)", x.run(-5), 5);
            Due.is("x back by " + d, x.told(0, 0), 10 - 2 * way[d][0]);
            Due.is("y back by " + d, x.told(0, 1), 20 - 2 * way[d][1]);
        }
    }

    private static void waysOfSixes() {
        int[][] way = {{1, 0}, {0, 1}, {-1, 1}, {-1, 0}, {0, -1}, {1, -1}};
        for (int d = 0; d < 6; d++) {
            AntFloor x = new AntFloor();
            x.floor(1, 2);
            FloorTest.rule(x, 0, "NN");
            x.ant(10, 20, d, 0);
            Due.is("run(3)", x.run(3), 3);
            Due.is("x of sixes by " + d, x.told(0, 0), 10 + 3 * way[d][0]);
            Due.is("y of sixes by " + d, x.told(0, 1), 20 + 3 * way[d][1]);
            Due.is("run(-5)", x.run(-5), 5);
            Due.is("x of sixes back by " + d, x.told(0, 0), 10 - 2 * way[d][0]);
            Due.is("y of sixes back by " + d, x.told(0, 1), 20 - 2 * way[d][1]);
        }
    }

    /** The ant goes to and fro on two cells, each of which has three colours. */
    private static void colourGoesRound() {
        AntFloor x = new AntFloor();
        x.floor(0, 3);
        FloorTest.rule(x, 0, "UUU");
        x.ant(0, 0, 0, 0);
        int[] first = {1, 1, 2, 2, 0, 0, 1};
        int[] second = {0, 1, 1, 2, 2, 0, 0};
        for (int i = 0; i < 7; i++) {
            x.run(1);
            Due.is("first cell at " + (i + 1), x.colour(0, 0), first[i]);
            Due.is("second cell at " + (i + 1), x.colour(0, -1), second[i]);
        }
        for (int i = 5; i >= 0; i--) {
            x.run(-1);
            Due.is("first cell back at " + (i + 1), x.colour(0, 0), first[i]);
            Due.is("second cell back at " + (i + 1), x.colour(0, -1), second[i]);
        }
    }

    /** Two ants on one cell: the second turns by the colour that the first has left there. */
    private static void oneBehindTheOther() {
        AntFloor x = new AntFloor();
        x.ant(0, 0, 0, 0);
        x.ant(0, 0, 0, 0);
        x.run(1);
        Due.is("the first turns R", x.told(0, 2), 1);
        Due.is("the second turns L", x.told(1, 2), 3);
        Due.is("the cell had two acts", x.visits(0, 0), 2);
        Due.is("and is 0 again", x.colour(0, 0), 0);
        Due.is("back", x.run(-1), 1);
        Due.is("the first stands as before", x.told(0, 2), 0);
        Due.is("the second stands as before", x.told(1, 2), 0);
        Due.is("nothing painted", x.count(1), 0);
    }

    private static void backIsTheWayBack() {
        AntFloor x = new AntFloor();
        x.floor(1, 6);
        FloorTest.rule(x, 0, "SLMRNU");
        FloorTest.rule(x, 1, "RRLLNS");
        x.paint(1, 1, 5);
        x.ant(0, 0, 0, 0);
        x.ant(1, 0, 3, 1);
        x.ant(0, 1, 5, 2);
        long before = x.digest();
        int done = x.run(60);
        Due.isTrue("many steps", done > 10);
        Due.is("back", x.run(-done), done);
        Due.is("all is as it was", x.digest(), before);
        Due.is("no visits are left", x.count(3), 0);
        Due.is("time()", x.time(), 0);
    }

    private static void backBeyondTheBeginning() {
        AntFloor x = new AntFloor();
        x.ant(0, 0, 0, 0);
        // Back from (0, 0), heading up: (0, -1) was 1 before it became 0, L was taken there, so it came heading right.
        Due.is("run(-1)", x.run(-1), 1);
        Due.is("x", x.told(0, 0), 0);
        Due.is("y", x.told(0, 1), -1);
        Due.is("direction", x.told(0, 2), 1);
        Due.is("colour", x.colour(0, -1), 1);
        Due.is("visits below 0", x.visits(0, -1), -1);
        Due.is("time()", x.time(), -1);
        Due.is("count(3)", x.count(3), 1);
        Due.is("run(1)", x.run(1), 1);
        Due.is("count(1)", x.count(1), 0);
        Due.is("direction", x.told(0, 2), 0);
    }

    private static void edgeAhead() {
        int[][] starts = {{0, 117, 0}, {117, 0, 1}, {0, -118, 2}, {-118, 0, 3}};
        for (int[] s : starts) {
            AntFloor x = new AntFloor();
            FloorTest.rule(x, 0, "NN");
            x.ant(s[0], s[1], s[2], 0);
            Due.is("run(5) to the edge", x.run(5), 2);
            long at = x.digest();
            Due.is("run(1) at the edge", x.run(1), AntFloor.EDGE);
            Due.is("run(2000) at the edge", x.run(2000), AntFloor.EDGE);
            Due.is("nothing is done", x.digest(), at);
            Due.is("time()", x.time(), 2);
            Due.is("count(3)", x.count(3), 2);
            Due.is("back from the edge", x.run(-2), 2);
        }
    }

    private static void edgeBack() {
        int[][] starts = {{0, -118, 0}, {-118, 0, 1}, {0, 117, 2}, {117, 0, 3}};
        for (int[] s : starts) {
            AntFloor x = new AntFloor();
            FloorTest.rule(x, 0, "NN");
            x.ant(s[0], s[1], s[2], 0);
            Due.is("run(-5) to the edge", x.run(-5), 2);
            long at = x.digest();
            Due.is("run(-1) at the edge", x.run(-1), AntFloor.EDGE);
            Due.is("nothing is done", x.digest(), at);
            Due.is("time()", x.time(), -2);
            Due.is("count(3)", x.count(3), 2);
        }
    }

    private static void edgeOfALaterAnt() {
        AntFloor x = new AntFloor();
        FloorTest.rule(x, 0, "NN");
        x.ant(0, 0, 0, 0);
        x.ant(0, 5, 1, 1);
        x.ant(119, 50, 1, 0);
        x.ant(0, 9, 1, 1);
        x.mark();
        long before = x.digest();
        Due.is("the third stands at the edge", x.run(3), AntFloor.EDGE);
        Due.is("the others did nothing either", x.digest(), before);
        Due.is("no visits", x.count(3), 0);
        Due.is("no acts for V", x.road(3), 0);
        Due.is("time()", x.time(), 0);
        x.floor(0, 2);
        FloorTest.rule(x, 0, "NN");
        x.ant(0, 0, 0, 1);
        x.ant(0, -120, 0, 0);
        x.ant(0, 0, 0, 1);
        before = x.digest();
        Due.is("the second stands at the edge behind it", x.run(-3), AntFloor.EDGE);
        Due.is("the others did nothing either", x.digest(), before);
        Due.is("no visits", x.count(3), 0);
    }

    private static void meetings() {
        AntFloor x = new AntFloor();
        FloorTest.rule(x, 0, "NN");
        x.ant(3, 4, 0, 0);
        x.ant(3, 10, 2, 0);
        Due.is("run(2)", x.run(2), 2);
        Due.is("none yet", x.count(2), 0);
        Due.is("run(1)", x.run(1), 1);
        Due.is("one", x.count(2), 1);
        int[] due = {3, 3, 7, 3};
        for (int what = 0; what < 4; what++) {
            Due.is("meeting(0, " + what + ")", x.meeting(0, what), due[what]);
        }
        int[][] wrong = {{1, 0}, {-1, 0}, {0, -1}, {0, 4}, {LEAST, 0}, {MOST, 0}, {0, LEAST}, {0, MOST}};
        for (int[] w : wrong) {
            Due.is("meeting(" + w[0] + ", " + w[1] + ")", x.meeting(w[0], w[1]), -1000001);
        }
        x.run(1);
        Due.is("a step back to the cell is no meeting", x.run(-1), 1);
        Due.is("still one", x.count(2), 1);
        x.run(-1);
        x.run(1);
        Due.is("it is met once more", x.count(2), 2);
        Due.is("at the same time", x.meeting(1, 0), 3);
        x.less();
        x.less();
        Due.is("meetings stay without ants", x.meeting(1, 3), 3);
    }

    private static void meetingsOfSeveral() {
        AntFloor x = new AntFloor();
        FloorTest.rule(x, 0, "NN");
        // Ants 1, 4 meet at (0, 0); ants 0, 2, 5 at (50, -50); ant 3 is alone.
        x.ant(50, -51, 0, 0);
        x.ant(0, -1, 0, 0);
        x.ant(49, -50, 1, 0);
        x.ant(0, 50, 0, 0);
        x.ant(1, 0, 3, 0);
        x.ant(50, -49, 2, 0);
        x.run(1);
        Due.is("two meetings", x.count(2), 2);
        int[][] due = {{1, 50, -50, 37}, {1, 0, 0, 18}};
        for (int i = 0; i < 2; i++) {
            for (int what = 0; what < 4; what++) {
                Due.is("meeting(" + i + ", " + what + ")", x.meeting(i, what), due[i][what]);
            }
        }
        AntFloor y = new AntFloor();
        y.ant(0, 0, 0, 0);
        y.ant(0, 0, 0, 0);
        Due.is("ants put on one cell have not met", y.count(2), 0);
    }

    /** Two ants in step on each cell: each step is a meeting. */
    private static void sixtyMeetingsAreKept() {
        AntFloor x = new AntFloor();
        FloorTest.rule(x, 0, "NN");
        x.ant(-20, 0, 1, 0);
        x.ant(-20, 0, 1, 0);
        x.run(59);
        Due.is("59", x.count(2), 59);
        Due.is("meeting(58, 0)", x.meeting(58, 0), 59);
        Due.is("meeting(59, 0)", x.meeting(59, 0), -1000001);
        x.run(11);
        Due.is("70", x.count(2), 70);
        Due.is("meeting(59, 0)", x.meeting(59, 0), 60);
        Due.is("meeting(59, 1)", x.meeting(59, 1), 40);
        Due.is("meeting(60, 0)", x.meeting(60, 0), -1000001);
        Due.is("meeting(69, 0)", x.meeting(69, 0), -1000001);
        x.floor(0, 2);
        x.ant(0, 0, 0, 0);
        x.ant(-1, 1, 0, 0);
        Due.is("run(1)", x.run(1), 1);
        Due.is("since floor() none", x.count(2), 0);
    }

    private static void visits() {
        AntFloor x = new AntFloor();
        FloorTest.rule(x, 0, "UU");
        x.ant(119, 119, 0, 0);
        x.run(7);
        Due.is("visits of the corner", x.visits(119, 119), 4);
        Due.is("visits below it", x.visits(119, 118), 3);
        Due.is("count(3)", x.count(3), 2);
        x.run(-3);
        Due.is("visits of the corner", x.visits(119, 119), 2);
        Due.is("visits below it", x.visits(119, 118), 2);
        x.run(-4);
        Due.is("no visits", x.count(3), 0);
        x.paint(119, 118, 1);
        Due.is("paint is no visit", x.visits(119, 118), 0);
        int[][] beyond = {{-121, 0}, {120, 0}, {0, -121}, {0, 120}, {LEAST, 0}, {0, LEAST}, {MOST, 0}, {0, MOST}};
        for (int[] b : beyond) {
            Due.is("visits(" + b[0] + ", " + b[1] + ")", x.visits(b[0], b[1]), -10000001);
        }
        Due.is("visits(-120, -120)", x.visits(-120, -120), 0);
    }

    private static void counts() {
        AntFloor x = new AntFloor();
        x.floor(1, 4);
        x.paint(0, 0, 1);
        x.paint(-120, -120, 3);
        x.paint(119, 119, 3);
        x.ant(5, 5, 0, 0);
        x.run(2);
        int[] due = {1, 5, 0, 2, 4, 1};
        for (int what = 0; what < 6; what++) {
            Due.is("count(" + what + ")", x.count(what), due[what]);
        }
        int[] each = {57595, 3, 0, 2};
        for (int c = 0; c < 4; c++) {
            Due.is("count(10 + " + c + ")", x.count(10 + c), each[c]);
        }
        for (int what : new int[] {-1, 6, 7, 8, 9, 14, 21, LEAST, MOST}) {
            Due.is("count(" + what + ")", x.count(what), AntFloor.BAD);
        }
        x.floor(0, 12);
        x.paint(0, 0, 11);
        Due.is("count(21) of 12 colours", x.count(21), 1);
        Due.is("count(22) of 12 colours", x.count(22), AntFloor.BAD);
    }

    private static void bounds() {
        AntFloor x = new AntFloor();
        for (int what = 0; what < 4; what++) {
            Due.is("bounds of nothing", x.bounds(what), -1001);
        }
        checkBounds(x, 3, -4, new int[] {3, 3, -4, -4});
        checkBounds(x, -7, 2, new int[] {-7, 3, -4, 2});
        checkBounds(x, 0, 60, new int[] {-7, 3, -4, 60});
        checkBounds(x, 119, -120, new int[] {-7, 119, -120, 60});
        checkBounds(x, -120, 119, new int[] {-120, 119, -120, 119});
        for (int what : new int[] {-1, 4, LEAST, MOST}) {
            Due.is("bounds(" + what + ")", x.bounds(what), -1001);
        }
        for (int[] corner : new int[][] {{-120, -120}, {-120, 119}, {119, -120}, {119, 119}}) {
            checkBounds(new AntFloor(), corner[0], corner[1], new int[] {corner[0], corner[0], corner[1], corner[1]});
        }
        x.paint(-120, 119, 0);
        x.paint(119, -120, 0);
        Due.is("bounds shrink", x.bounds(0), -7);
        Due.is("bounds shrink", x.bounds(3), 60);
    }

    private static void checkBounds(AntFloor x, int px, int py, int[] due) {
        x.paint(px, py, 1);
        for (int what = 0; what < 4; what++) {
            Due.is("bounds(" + what + ") with (" + px + ", " + py + ")", x.bounds(what), due[what]);
        }
    }

    private static void digest() {
        AntFloor x = new AntFloor();
        x.floor(0, 9);
        x.paint(-120, 119, 8);
        x.paint(119, 119, 2);
        x.paint(-120, 118, 3);
        x.paint(119, -120, 7);
        long h = 7;
        for (int i = 0; i < 57600; i++) {
            h = 31 * h + (i == 0 ? 8 : i == 239 ? 2 : i == 240 ? 3 : i == 57599 ? 7 : 0);
        }
        Due.is("digest()", x.digest(), h);
        x.ant(-5, 6, 2, 3);
        x.ant(100, -100, 1, 0);
        for (int each : new int[] {-5, 6, 2, 3, 100, -100, 1, 0}) {
            h = 31 * h + each;
        }
        Due.is("digest() with ants", x.digest(), h);
        x.run(3);
        x.run(-3);
        Due.is("time and visits are not in it", x.digest(), h);
    }
}
