/** Promises 1 to 9: a new object, floor, type, rule, ant, less, paint, colour, told. */
public final class FloorTest {
    private static final int LEAST = Integer.MIN_VALUE;
    private static final int MOST = Integer.MAX_VALUE;

    public static void main(String[] args) {
        newObject();
        floorIsAnew();
        floorKeepsTapeAndSheets();
        floorWrong();
        typeFillsTheTape();
        typeTakesLowBytesHighestFirst();
        ruleTakesTheTape();
        ruleRefused();
        lettersOfSquares();
        lettersOfSixes();
        ants();
        lessTakesTheLast();
        paintAndColour();
        told();
        Due.end();
    }

    /** The letters, the first one typed first. */
    static void typeAll(AntFloor x, String letters) {
        for (int i = 0; i < letters.length(); i++) {
            Due.is("type(" + letters.charAt(i) + ")", x.type(letters.charAt(i), 1), i + 1);
        }
    }

    static void rule(AntFloor x, int r, String letters) {
        typeAll(x, letters);
        Due.is("rule(" + r + ") " + letters, x.rule(r), letters.length());
    }

    private static void newObject() {
        AntFloor x = new AntFloor();
        Due.is("new: count(0)", x.count(0), 0);
        Due.is("new: count(1)", x.count(1), 0);
        Due.is("new: count(2)", x.count(2), 0);
        Due.is("new: count(3)", x.count(3), 0);
        Due.is("new: count(4)", x.count(4), 2);
        Due.is("new: count(5)", x.count(5), 0);
        Due.is("new: count(10)", x.count(10), 57600);
        Due.is("new: time()", x.time(), 0);
        Due.is("new: differ()", x.differ(), AntFloor.NOT);
        Due.is("new: road(0)", x.road(0), -1002);
        for (int s = 0; s < 4; s++) {
            Due.is("new: drop(" + s + ")", x.drop(s), AntFloor.NULL);
        }
        Due.is("new: less()", x.less(), AntFloor.NOT);
        Due.is("new: the tape is empty", x.type('R', 1), 1);
        for (int r = 0; r < 4; r++) {
            Due.is("new: ant of rule " + r, x.ant(10 * r, 0, 0, r), r);
        }
        x.run(1);
        for (int r = 0; r < 4; r++) {
            Due.is("new: rule " + r + " has R first", x.told(r, 2), 1);
        }
        AntFloor y = new AntFloor();
        y.paint(0, 0, 1);
        y.ant(0, 0, 0, 0);
        y.run(1);
        Due.is("new: rule 0 has L second", y.told(0, 2), 3);
        Due.is("new: another object is another floor", x.count(1), 4);
    }

    private static void floorIsAnew() {
        AntFloor x = new AntFloor();
        rule(x, 0, "NN");
        x.ant(0, 0, 0, 0);
        x.ant(0, 2, 2, 0);
        Due.is("run(1)", x.run(1), 1);
        x.mark();
        Due.is("a meeting", x.count(2), 1);
        Due.is("floor(1, 12) answers how many ants there were", x.floor(1, 12), 2);
        Due.is("floor again", x.floor(1, 12), 0);
        Due.is("anew: count(0)", x.count(0), 0);
        Due.is("anew: count(1)", x.count(1), 0);
        Due.is("anew: count(2)", x.count(2), 0);
        Due.is("anew: count(3)", x.count(3), 0);
        Due.is("anew: count(4)", x.count(4), 12);
        Due.is("anew: count(5)", x.count(5), 1);
        Due.is("anew: time()", x.time(), 0);
        Due.is("anew: meeting(0, 0)", x.meeting(0, 0), -1000001);
        Due.is("anew: visits(0, 0)", x.visits(0, 0), 0);
        Due.is("anew: differ()", x.differ(), AntFloor.NOT);
        Due.is("anew: road(3)", x.road(3), -1002);
        x.ant(0, 0, 0, 0);
        x.run(1);
        Due.is("anew: rule 0 is R, L again", x.told(0, 2), 1);
        for (int c = 0; c < 12; c++) {
            x.less();
            x.ant(5, 5, 3, 2);
            x.paint(5, 5, c);
            x.run(1);
            Due.is("anew: rule 2 at colour " + c, x.told(0, 2), c % 2 == 0 ? 4 : 2);
        }
    }

    private static void floorKeepsTapeAndSheets() {
        AntFloor x = new AntFloor();
        typeAll(x, "LR");
        x.sheet(2, 1, 7);
        x.floor(0, 3);
        Due.is("the tape stays", x.type('N', 1), 3);
        Due.is("the tape is a rule", x.rule(0), 3);
        Due.is("the sheets stay", x.drop(2), 7);
    }

    private static void floorWrong() {
        AntFloor x = new AntFloor();
        x.ant(0, 0, 0, 0);
        x.run(3);
        long before = x.digest();
        int[][] wrong = {{-1, 2}, {2, 2}, {0, 1}, {0, 13}, {1, 0}, {1, -2}, {LEAST, MOST}, {MOST, 2}, {0, LEAST}};
        for (int[] w : wrong) {
            Due.is("floor(" + w[0] + ", " + w[1] + ")", x.floor(w[0], w[1]), AntFloor.BAD);
        }
        Due.is("a wrong floor() changes nothing", x.digest(), before);
        Due.is("nor the time", x.time(), 3);
        Due.is("floor(0, 2)", x.floor(0, 2), 1);
        Due.is("floor(0, 12)", x.floor(0, 12), 0);
    }

    private static void typeFillsTheTape() {
        AntFloor x = new AntFloor();
        Due.is("type 8", x.type(0L, 8), 8);
        Due.is("type 5 more", x.type(0L, 5), AntFloor.FULL);
        Due.is("type 4 more", x.type(0L, 4), 12);
        Due.is("type 1 more", x.type(0L, 1), AntFloor.FULL);
        Due.is("type 0: BAD ahead of FULL", x.type(0L, 0), AntFloor.BAD);
        Due.is("type 9: BAD ahead of FULL", x.type(0L, 9), AntFloor.BAD);
        Due.is("type -1", x.type(0L, -1), AntFloor.BAD);
        Due.is("type least", x.type(0L, LEAST), AntFloor.BAD);
        Due.is("type most", x.type(0L, MOST), AntFloor.BAD);
        Due.is("rule of 12 bytes that are none", x.rule(0), AntFloor.NOT);
        Due.is("type behind NOT", x.type(0L, 1), 1);
    }

    private static void typeTakesLowBytesHighestFirst() {
        AntFloor x = new AntFloor();
        x.floor(0, 8);
        // N R U L R U L N, the highest byte first.
        Due.is("type of 8", x.type(0x4E52554C52554C4EL, 8), 8);
        Due.is("rule(3)", x.rule(3), 8);
        int[] turns = {0, 1, 2, 3, 1, 2, 3, 0};
        for (int c = 0; c < 8; c++) {
            x.less();
            x.paint(0, 0, c);
            x.ant(0, 0, 0, 3);
            x.run(1);
            Due.is("letter " + c, x.told(0, 2), turns[c]);
        }
        x.floor(0, 2);
        Due.is("higher bytes are left out", x.type(0xFFFFFFFFFFFF4C4EL, 2), 2);
        Due.is("rule(0)", x.rule(0), 2);
        x.ant(0, 0, 0, 0);
        x.run(1);
        Due.is("L comes first", x.told(0, 2), 3);
    }

    private static void ruleTakesTheTape() {
        AntFloor x = new AntFloor();
        rule(x, 1, "UN");
        Due.is("the tape is empty then", x.type('R', 1), 1);
        Due.is("rule of one letter", x.rule(0), AntFloor.NOT);
        x.ant(0, 0, 0, 0);
        x.ant(50, 50, 0, 1);
        x.run(1);
        Due.is("rule 0 stays by NOT", x.told(0, 2), 1);
        Due.is("rule 1 is new", x.told(1, 2), 2);
        rule(x, 1, "NN");
        x.run(1);
        Due.is("a rule changes below its ant", x.told(1, 2), 2);
    }

    private static void ruleRefused() {
        AntFloor x = new AntFloor();
        Due.is("rule of an empty tape", x.rule(0), AntFloor.NOT);
        typeAll(x, "NN");
        for (int r : new int[] {-1, 4, LEAST, MOST}) {
            Due.is("rule(" + r + ")", x.rule(r), AntFloor.BAD);
        }
        Due.is("the tape stays by BAD", x.type('N', 1), 3);
        Due.is("a letter too many", x.rule(0), AntFloor.NOT);
        for (String bad : new String[] {"RS", "MR", "rl", "R ", "XL", "N\0", "N" + (char) ('R' + 128)}) {
            typeAll(x, bad);
            Due.is("rule of " + bad, x.rule(0), AntFloor.NOT);
            Due.is("the tape is empty by NOT", x.type('L', 1), 1);
            x.rule(0);
        }
        x.ant(0, 0, 0, 0);
        x.run(1);
        Due.is("no letter was taken", x.told(0, 2), 1);
    }

    private static void lettersOfSquares() {
        String letters = "NRUL";
        int[] turns = {0, 1, 2, 3};
        for (int i = 0; i < 4; i++) {
            for (int d = 0; d < 4; d++) {
                AntFloor x = new AntFloor();
                rule(x, 0, letters.charAt(i) + "N");
                x.ant(7, -7, d, 0);
                x.run(1);
                Due.is(letters.charAt(i) + " from " + d, x.told(0, 2), (d + turns[i]) % 4);
            }
        }
    }

    private static void lettersOfSixes() {
        String letters = "NRSUML";
        for (int turn = 0; turn < 6; turn++) {
            AntFloor x = new AntFloor();
            x.floor(1, 2);
            rule(x, 0, letters.charAt(turn) + "N");
            for (int d = 0; d < 6; d++) {
                x.ant(7, -7 + 10 * d, d, 0);
            }
            x.run(1);
            for (int d = 0; d < 6; d++) {
                Due.is(letters.charAt(turn) + " of sixes from " + d, x.told(d, 2), (d + turn) % 6);
            }
        }
    }

    private static void ants() {
        AntFloor x = new AntFloor();
        int[][] wrong = {{-121, 0, 0, 0}, {120, 0, 0, 0}, {0, -121, 0, 0}, {0, 120, 0, 0}, {0, 0, -1, 0}, {0, 0, 4, 0},
            {0, 0, 0, -1}, {0, 0, 0, 4}, {LEAST, 0, 0, 0}, {0, MOST, 0, 0}, {0, 0, MOST, 0}, {0, 0, 0, LEAST}};
        for (int[] w : wrong) {
            Due.is("ant(" + w[0] + ", " + w[1] + ", " + w[2] + ", " + w[3] + ")", x.ant(w[0], w[1], w[2], w[3]), AntFloor.BAD);
        }
        Due.is("wrong ants are none", x.count(0), 0);
        for (int i = 0; i < 6; i++) {
            Due.is("ant " + i, x.ant(i % 2 == 0 ? -120 : 119, i % 3 == 0 ? -120 : 119, i % 4, i % 4), i);
        }
        Due.is("a seventh", x.ant(0, 0, 0, 0), AntFloor.FULL);
        Due.is("BAD ahead of FULL", x.ant(0, 0, 4, 0), AntFloor.BAD);
        Due.is("six", x.count(0), 6);
        x.floor(1, 2);
        Due.is("direction 5 of sixes", x.ant(0, 0, 5, 3), 0);
        Due.is("direction 6 of sixes", x.ant(0, 0, 6, 3), AntFloor.BAD);
    }

    private static void lessTakesTheLast() {
        AntFloor x = new AntFloor();
        x.ant(1, 2, 3, 1);
        x.ant(4, 5, 2, 2);
        Due.is("less()", x.less(), 1);
        Due.is("the first is there", x.told(0, 0), 1);
        Due.is("the last is gone", x.told(1, 0), -1001);
        Due.is("a new one has its number", x.ant(9, 9, 0, 0), 1);
        Due.is("less()", x.less(), 1);
        Due.is("less()", x.less(), 0);
        Due.is("less() of none", x.less(), AntFloor.NOT);
        Due.is("count(0)", x.count(0), 0);
    }

    private static void paintAndColour() {
        AntFloor x = new AntFloor();
        x.floor(1, 5);
        int[][] corners = {{-120, -120}, {-120, 119}, {119, -120}, {119, 119}, {0, 0}, {3, -4}};
        for (int i = 0; i < corners.length; i++) {
            Due.is("paint a corner", x.paint(corners[i][0], corners[i][1], i % 4 + 1), 0);
        }
        for (int i = 0; i < corners.length; i++) {
            Due.is("colour of a corner", x.colour(corners[i][0], corners[i][1]), i % 4 + 1);
            Due.is("paint answers what it was", x.paint(corners[i][0], corners[i][1], 0), i % 4 + 1);
            Due.is("colour of a corner", x.colour(corners[i][0], corners[i][1]), 0);
        }
        int[][] beyond = {{-121, 0}, {120, 0}, {0, -121}, {0, 120}, {LEAST, 0}, {0, LEAST}, {MOST, 0}, {0, MOST}};
        for (int[] b : beyond) {
            Due.is("paint beyond", x.paint(b[0], b[1], 1), AntFloor.BAD);
            Due.is("colour beyond", x.colour(b[0], b[1]), AntFloor.BAD);
        }
        Due.is("paint -1", x.paint(0, 0, -1), AntFloor.BAD);
        Due.is("paint 5", x.paint(0, 0, 5), AntFloor.BAD);
        Due.is("paint 4", x.paint(0, 0, 4), 0);
        Due.is("only that is painted", x.count(1), 1);
        Due.is("paint is no visit", x.visits(0, 0), 0);
    }

    private static void told() {
        AntFloor x = new AntFloor();
        x.ant(0, 0, 0, 0);
        x.ant(-120, 119, 3, 2);
        int[] due = {-120, 119, 3, 2};
        for (int what = 0; what < 4; what++) {
            Due.is("told(1, " + what + ")", x.told(1, what), due[what]);
        }
        int[][] wrong = {{2, 0}, {-1, 0}, {0, -1}, {0, 4}, {LEAST, 0}, {MOST, 0}, {1, LEAST}, {1, MOST}, {6, 0}};
        for (int[] w : wrong) {
            Due.is("told(" + w[0] + ", " + w[1] + ")", x.told(w[0], w[1]), -1001);
        }
    }
}
