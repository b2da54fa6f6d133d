/** Objects with a past that several cases start from, and numbers that several cases use. */
final class Past {
    static final int LEAST = Integer.MIN_VALUE;
    static final int MOST = Integer.MAX_VALUE;

    static final int[][] WAYS_OF_SQUARES = {{0, 1}, {1, 0}, {0, -1}, {-1, 0}};
    static final int[][] WAYS_OF_SIXES = {{1, 0}, {0, 1}, {-1, 1}, {-1, 0}, {0, -1}, {1, -1}};

    static final int[][] CORNERS = {{-120, -120}, {-120, 119}, {119, -120}, {119, 119}};
    /** CELLS that are none; of some the place in a row of all CELLS would be that of another CELL. */
    static final int[][] BEYOND = {{-121, 0}, {120, 0}, {0, -121}, {0, 120}, {-121, -120}, {120, 119}, {-121, 119},
        {120, -120}, {240, 0}, {-240, 0}, {LEAST, 0}, {MOST, 0}, {0, LEAST}, {0, MOST}, {LEAST, LEAST}, {MOST, MOST},
        {0, 17895697}, {0, -17895697}};

    private Past() {
    }

    static AntFloor of(int kind, int n) {
        AntFloor x = new AntFloor();
        x.floor(kind, n);
        return x;
    }

    static int[][] ways(int kind) {
        return kind == 0 ? WAYS_OF_SQUARES : WAYS_OF_SIXES;
    }

    static void type(AntFloor x, String letters) {
        for (int i = 0; i < letters.length(); i++) {
            x.type(letters.charAt(i), 1);
        }
    }

    static int rule(AntFloor x, int r, String letters) {
        type(x, letters);
        return x.rule(r);
    }

    /** The direction, behind a STEP, of a new ANT of a RULE that headed in a direction on a COLOUR. */
    static int turned(AntFloor x, int rule, int direction, int colour) {
        x.less();
        x.paint(0, 0, colour);
        x.ant(0, 0, direction, rule);
        x.run(1);
        return x.told(0, 2);
    }

    /** n times the letter N: an ANT of this RULE never turns. */
    static String noTurns(int n) {
        return "NNNNNNNNNNNN".substring(0, n);
    }

    /** One ANT, of a RULE that never turns, on a floor of two COLOURS. */
    static AntFloor straight(int kind, int x, int y, int direction) {
        AntFloor a = of(kind, 2);
        rule(a, 0, noTurns(2));
        a.ant(x, y, direction, 0);
        return a;
    }

    /** An item for each of the numbers, in a row of a LANE. */
    static void fill(AntFloor x, int sheet, int lane, int... items) {
        x.sheet(sheet, lane, items.length);
        for (int i = 0; i < items.length; i++) {
            x.item(sheet, lane, i, items[i]);
        }
    }

    /**
     * A bit of everything: RULES, a TAPE, a MEETING of three, VISITS, a painted CELL, SHEETS of each LANE (SHEET 3 holds
     * nothing), and one ANT on a ROAD of PERIOD 2.
     */
    static AntFloor onARoad(int kind, String tape) {
        int up = kind == 0 ? 0 : 1;
        int right = 1 - up;
        AntFloor x = of(kind, 4);
        rule(x, 1, "NNNN");
        rule(x, 2, "UNLR");
        x.ant(0, 0, up, 1);
        x.ant(-3, 3, right, 1);
        x.ant(3, 3, right + ways(kind).length / 2, 1);
        x.run(3);
        x.less();
        x.less();
        x.paint(-7, 9, 3);
        fill(x, 0, 0, 1, 2, 3, 0, 1);
        fill(x, 1, 1, 3, 2, 1);
        x.sheet(2, 2, 0);
        type(x, tape);
        x.mark();
        x.run(2);
        return x;
    }

    /** THE TAPE lacks one letter of a RULE: Refused types one before it takes THE TAPE. */
    static AntFloor onARoad(int kind) {
        return onARoad(kind, "ULN");
    }

    static AntFloor onARoad() {
        return onARoad(0);
    }

    /** Six ANTS, no two on one CELL. */
    static AntFloor sixAnts() {
        AntFloor x = of(0, 3);
        type(x, "UL");
        for (int i = 0; i < 6; i++) {
            x.ant(10 * i, -i, i % 4, i % 4);
        }
        x.mark();
        x.run(5);
        return x;
    }

    /** A ROAD that has come to the upper edge: no STEP more can be done. */
    static AntFloor atTheEdge() {
        AntFloor x = straight(0, 5, 110, 0);
        type(x, "U");
        x.mark();
        x.run(9);
        return x;
    }

    /** An ANT at the lower edge, heading up: no STEP BACK can be done. */
    static AntFloor atTheBackEdge() {
        AntFloor x = straight(0, 5, -120, 0);
        type(x, "U");
        x.mark();
        return x;
    }
}
