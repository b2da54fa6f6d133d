import java.util.Arrays;

/** The boundary cases of promises 1 to 9: a case for each sentence that names one, and the calls that are refused. */
public final class PromisesOfFloorTest {
    private static final int LEAST = Past.LEAST;
    private static final int MOST = Past.MOST;

    public static void main(String[] args) throws Exception {
        Cases.runAll(PromisesOfFloorTest.class);
    }

    private static String call(String name, int... with) {
        return name + Arrays.toString(with);
    }

    // ---- Promise 1: a new object

    static void promise01_floorAsAtFirst() {
        AntFloor x = new AntFloor();
        int[] due = {0, 0, 0, 0, 2, 0};
        for (int what = 0; what < 6; what++) {
            Due.is("count(" + what + ")", x.count(what), due[what]);
        }
        Due.is("count(10)", x.count(10), 57600);
        Due.is("time()", x.time(), 0);
        Due.is("bounds(0)", x.bounds(0), -1001);
        Due.is("meeting(0, 0)", x.meeting(0, 0), -1000001);
    }

    static void promise01_noAnts() {
        Due.is("told(0, 0)", new AntFloor().told(0, 0), -1001);
        Due.is("less()", new AntFloor().less(), AntFloor.NOT);
    }

    static void promise01_noMark() {
        AntFloor x = new AntFloor();
        for (int what = 0; what < 4; what++) {
            Due.is("road(" + what + ")", x.road(what), -1002);
        }
        Due.is("differ()", x.differ(), AntFloor.NOT);
    }

    static void promise01_nothingInSheets() {
        AntFloor x = new AntFloor();
        for (int s = 0; s < 4; s++) {
            Due.is("drop(" + s + ")", x.drop(s), AntFloor.NULL);
        }
    }

    static void promise01_tapeIsEmpty() {
        Due.is("type()", new AntFloor().type('R', 1), 1);
        Due.is("rule(0)", new AntFloor().rule(0), AntFloor.NOT);
    }

    static void promise01_rulesAreRLRL() {
        AntFloor x = new AntFloor();
        for (int r = 0; r < 4; r++) {
            Due.is("rule " + r + " at 0", Past.turned(x, r, 0, 0), 1);
            Due.is("rule " + r + " at 1", Past.turned(x, r, 0, 1), 3);
        }
    }

    static void promise01_objectsAreApart() {
        AntFloor x = Past.onARoad();
        x.ant(1, 1, 0, 0);
        Due.is("the first has ants", x.count(0), 2);
        AntFloor y = new AntFloor();
        Due.is("its ants", y.count(0), 0);
        Due.is("its cells", y.count(1), 0);
        Due.is("its tape", y.type('R', 1), 1);
        Due.is("its sheets", y.drop(0), AntFloor.NULL);
        Due.is("its mark", y.differ(), AntFloor.NOT);
    }

    // ---- Promise 2: floor

    static void promise02_kind0And1() {
        Due.is("floor(0, 2)", new AntFloor().floor(0, 2), 0);
        Due.is("floor(1, 2)", new AntFloor().floor(1, 2), 0);
        for (int kind : new int[] {-1, 2, LEAST, MOST}) {
            Due.is("floor(" + kind + ", 2)", new AntFloor().floor(kind, 2), AntFloor.BAD);
        }
    }

    static void promise02_n2To12() {
        for (int n = 2; n <= 12; n++) {
            AntFloor x = new AntFloor();
            Due.is("floor(0, " + n + ")", x.floor(0, n), 0);
            Due.is("count(4)", x.count(4), n);
        }
        for (int n : new int[] {1, 13, 0, -1, -2, LEAST, MOST}) {
            Due.is("floor(0, " + n + ")", new AntFloor().floor(0, n), AntFloor.BAD);
            Due.is("floor(1, " + n + ")", new AntFloor().floor(1, n), AntFloor.BAD);
        }
    }

    static void promise02_badChangesNothing() {
        int[][] wrong = {{-1, 2}, {2, 2}, {0, 1}, {0, 13}, {1, 1}, {1, 13}, {LEAST, MOST}};
        for (int[] w : wrong) {
            Refused.changesNothing(call("floor", w), Past::onARoad, x -> x.floor(w[0], w[1]), AntFloor.BAD);
        }
    }

    static void promise02_answersHowManyAntsThereWere() {
        AntFloor x = new AntFloor();
        for (int many = 0; many <= 6; many++) {
            for (int i = 0; i < many; i++) {
                x.ant(i, i, 0, 0);
            }
            Due.is("floor() of " + many, x.floor(0, 2), many);
            Due.is("none then", x.count(0), 0);
        }
    }

    /** A floor that is anew behind all that a past can bring, with the rest of that past. */
    private static AntFloor anew(int kind, int n) {
        AntFloor x = Past.onARoad(1 - kind);
        x.floor(kind, n);
        return x;
    }

    static void promise02_noAntsThen() {
        AntFloor x = anew(0, 2);
        Due.is("count(0)", x.count(0), 0);
        Due.is("told(0, 0)", x.told(0, 0), -1001);
        Due.is("less()", x.less(), AntFloor.NOT);
        Due.is("ant()", x.ant(0, 0, 0, 0), 0);
    }

    static void promise02_allCells0Then() {
        AntFloor x = new AntFloor();
        for (int[] corner : Past.CORNERS) {
            x.paint(corner[0], corner[1], 1);
        }
        x.floor(0, 2);
        Due.is("count(1)", x.count(1), 0);
        Due.is("bounds(0)", x.bounds(0), -1001);
        Due.is("digest()", x.digest(), new AntFloor().digest());
    }

    static void promise02_time0Then() {
        Due.is("time()", anew(0, 2).time(), 0);
        AntFloor x = new AntFloor();
        x.run(-5);
        x.floor(0, 2);
        Due.is("time()", x.time(), 0);
    }

    static void promise02_noMeetingsThen() {
        AntFloor x = anew(0, 2);
        Due.is("count(2)", x.count(2), 0);
        Due.is("meeting(0, 0)", x.meeting(0, 0), -1000001);
    }

    static void promise02_noVisitsThen() {
        AntFloor x = anew(1, 4);
        Due.is("count(3)", x.count(3), 0);
        Due.is("visits(0, 0)", x.visits(0, 0), 0);
    }

    static void promise02_noMarkThen() {
        AntFloor x = anew(0, 4);
        Due.is("differ()", x.differ(), AntFloor.NOT);
        for (int what = 0; what < 4; what++) {
            Due.is("road(" + what + ")", x.road(what), -1002);
        }
    }

    static void promise02_vIsNotKeptFromTheMarkBefore() {
        AntFloor x = anew(0, 2);
        x.ant(0, 0, 0, 0);
        x.run(1);
        x.mark();
        Due.is("road(3)", x.road(3), 0);
    }

    static void promise02_rulesAreRLRLThen() {
        for (int kind = 0; kind < 2; kind++) {
            AntFloor x = Past.of(kind, 12);
            for (int r = 0; r < 4; r++) {
                Past.rule(x, r, "UUUUUUUUUUUU");
            }
            x.floor(kind, 12);
            int left = kind == 0 ? 3 : 5;
            for (int r = 0; r < 4; r++) {
                for (int c = 0; c < 12; c++) {
                    Due.is("kind " + kind + ", rule " + r + " at " + c, Past.turned(x, r, 0, c), c % 2 == 0 ? 1 : left);
                }
            }
        }
    }

    static void promise02_tapeStays() {
        AntFloor x = new AntFloor();
        Past.type(x, "LU");
        x.floor(1, 3);
        Due.is("type()", x.type('N', 1), 3);
        Due.is("rule(2)", x.rule(2), 3);
        Due.is("its L", Past.turned(x, 2, 0, 0), 5);
        Due.is("its U", Past.turned(x, 2, 0, 1), 3);
        Due.is("its N", Past.turned(x, 2, 0, 2), 0);
    }

    static void promise02_sheetsStay() {
        AntFloor x = new AntFloor();
        Past.fill(x, 0, 0, 1, 3);
        Past.fill(x, 1, 1, 2);
        x.sheet(2, 2, 60);
        x.floor(0, 4);
        Due.is("lay()", x.lay(0, 0, 0, 2, 0, 0), 2);
        Due.is("item 1", x.colour(1, 0), 3);
        Due.is("drop(0)", x.drop(0), 2);
        Due.is("drop(1)", x.drop(1), 1);
        Due.is("drop(2)", x.drop(2), 60);
        Due.is("drop(3)", x.drop(3), AntFloor.NULL);
    }

    static void promise02_theSameFloorIsAnewToo() {
        AntFloor x = new AntFloor();
        Past.rule(x, 0, "UU");
        x.paint(3, 3, 1);
        x.ant(0, 0, 0, 0);
        x.run(3);
        x.mark();
        Due.is("floor(0, 2)", x.floor(0, 2), 1);
        Refused.sameRead("behind floor(0, 2)", x, new AntFloor());
    }

    // ---- Promise 3: type

    static void promise03_n1To8() {
        for (int n = 1; n <= 8; n++) {
            Due.is("type of " + n, new AntFloor().type(0L, n), n);
        }
        for (int n : new int[] {0, 9, -1, LEAST, MOST}) {
            Due.is("type of " + n, new AntFloor().type(0L, n), AntFloor.BAD);
        }
    }

    static void promise03_the12thIsTakenThe13thIsFull() {
        for (int n = 1; n <= 8; n++) {
            AntFloor x = new AntFloor();
            Past.type(x, Past.noTurns(12 - n));
            Due.is("the 12th with " + n, x.type(0L, n), 12);
            Due.is("a 13th", x.type(0L, 1), AntFloor.FULL);
            AntFloor y = new AntFloor();
            Past.type(y, Past.noTurns(13 - n));
            Due.is("the 13th with " + n, y.type(0L, n), AntFloor.FULL);
        }
    }

    static void promise03_badAheadOfFull() {
        AntFloor x = new AntFloor();
        x.type(0L, 8);
        x.type(0L, 4);
        Due.is("0 behind 12", x.type(0L, 0), AntFloor.BAD);
        Due.is("9 behind 12", x.type(0L, 9), AntFloor.BAD);
        Due.is("-1 behind 12", x.type(0L, -1), AntFloor.BAD);
    }

    static void promise03_badChangesNothing() {
        for (int n : new int[] {0, 9, -1, LEAST, MOST}) {
            Refused.changesNothing("type of " + n, Past::onARoad, x -> x.type('N', n), AntFloor.BAD);
        }
    }

    private static AntFloor tapeOf(String letters) {
        AntFloor x = Past.of(1, 12);
        Past.type(x, letters);
        return x;
    }

    static void promise03_fullChangesNothing() {
        Refused.changesNothing("type of 2 behind 11", () -> tapeOf("NRSUMLNRSUM"), x -> x.type(0x4C4CL, 2),
            AntFloor.FULL);
        Refused.changesNothing("type of 1 behind 12", () -> tapeOf("NRSUMLNRSUML"), x -> x.type('N', 1), AntFloor.FULL);
        Refused.changesNothing("type of 8 behind 11", () -> tapeOf("NRSUMLNRSUM"), x -> x.type(0x4C4C4C4C4C4C4C4CL, 8),
            AntFloor.FULL);
    }

    static void promise03_theHighestOfTheBytesFirst() {
        AntFloor x = Past.of(1, 8);
        Due.is("type()", x.type(0x4E5253554D4C4E52L, 8), 8);
        Due.is("rule(0)", x.rule(0), 8);
        int[] due = {0, 1, 2, 3, 4, 5, 0, 1};
        for (int c = 0; c < 8; c++) {
            Due.is("letter " + c, Past.turned(x, 0, 0, c), due[c]);
        }
    }

    static void promise03_onlyTheLowestBytes() {
        AntFloor x = Past.of(0, 3);
        Due.is("type()", x.type(0xFFFFFFFFFF4C554EL, 3), 3);
        Due.is("rule(0)", x.rule(0), 3);
        int[] due = {3, 2, 0};
        for (int c = 0; c < 3; c++) {
            Due.is("letter " + c, Past.turned(x, 0, 0, c), due[c]);
        }
    }

    static void promise03_bytesAbove127AreTypedToo() {
        AntFloor x = new AntFloor();
        Due.is("type of -1", x.type(-1L, 8), 8);
        Due.is("type of the least", x.type(Long.MIN_VALUE, 4), 12);
        Due.is("they are no rule", x.rule(0), AntFloor.NOT);
    }

    static void promise03_theyComeBehindTheTape() {
        AntFloor x = Past.of(0, 4);
        Due.is("two", x.type(0x4C55L, 2), 2);
        Due.is("two more", x.type(0x4E52L, 2), 4);
        Due.is("rule(0)", x.rule(0), 4);
        int[] due = {3, 2, 0, 1};
        for (int c = 0; c < 4; c++) {
            Due.is("letter " + c, Past.turned(x, 0, 0, c), due[c]);
        }
    }

    // ---- Promise 4: rule

    static void promise04_rMinus1And4AreBad() {
        for (int r : new int[] {-1, 4, LEAST, MOST}) {
            Due.is("rule(" + r + ")", Past.rule(new AntFloor(), r, "NN"), AntFloor.BAD);
        }
        for (int r = 0; r < 4; r++) {
            Due.is("rule(" + r + ")", Past.rule(new AntFloor(), r, "NN"), 2);
        }
    }

    static void promise04_badAheadOfNot() {
        Due.is("an empty tape", new AntFloor().rule(4), AntFloor.BAD);
        Due.is("letters that are none", Past.rule(new AntFloor(), -1, "XX"), AntFloor.BAD);
    }

    static void promise04_badChangesNothing() {
        for (int r : new int[] {-1, 4, LEAST, MOST}) {
            Refused.changesNothing("rule(" + r + ")", Past::onARoad, x -> x.rule(r), AntFloor.BAD);
            AntFloor x = new AntFloor();
            Past.type(x, "NU");
            x.rule(r);
            Due.is("the tape stays", x.rule(1), 2);
            Due.is("with its letters", Past.turned(x, 1, 0, 1), 2);
        }
    }

    static void promise04_anEmptyTapeIsNot() {
        for (int r = 0; r < 4; r++) {
            Due.is("rule(" + r + ")", new AntFloor().rule(r), AntFloor.NOT);
        }
    }

    static void promise04_aLetterTooFewOrTooManyIsNot() {
        for (int n = 2; n <= 12; n++) {
            AntFloor x = Past.of(0, n);
            Due.is("n - 1 of n = " + n, Past.rule(x, 0, Past.noTurns(n - 1)), AntFloor.NOT);
            Due.is("n = " + n, Past.rule(x, 0, Past.noTurns(n)), n);
            if (n < 12) {
                Due.is("n + 1 of n = " + n, Past.rule(x, 0, Past.noTurns(n + 1)), AntFloor.NOT);
            }
        }
    }

    static void promise04_aLetterThatIsNoneIsNot() {
        int[] none = {0, 'A', 'K', 'O', 'Q', 'T', 'V', 'n', 'r', 'u', 'l', 's', 'm', ' ', '0', 1, 2, 3, 127,
            'N' + 128, 'R' + 128, 'U' + 128, 'L' + 128, 255};
        for (int kind = 0; kind < 2; kind++) {
            for (int letter : none) {
                for (int place = 0; place < 3; place++) {
                    AntFloor x = Past.of(kind, 3);
                    for (int i = 0; i < 3; i++) {
                        x.type(i == place ? letter : 'N', 1);
                    }
                    Due.is("letter " + letter + " at " + place, x.rule(0), AntFloor.NOT);
                }
            }
        }
    }

    static void promise04_SAndMAreNoneOfSquares() {
        Due.is("S of squares", Past.rule(Past.of(0, 2), 0, "RS"), AntFloor.NOT);
        Due.is("M of squares", Past.rule(Past.of(0, 2), 0, "MR"), AntFloor.NOT);
        Due.is("S, M of sixes", Past.rule(Past.of(1, 2), 0, "SM"), 2);
    }

    static void promise04_theTapeIsEmptyThen() {
        AntFloor x = new AntFloor();
        Due.is("rule(0)", Past.rule(x, 0, "NN"), 2);
        Due.is("type()", x.type('N', 1), 1);
    }

    static void promise04_theTapeIsEmptyByNotToo() {
        for (String letters : new String[] {"N", "NNN", "NX", "XN", "NNNNNNNNNNNN"}) {
            AntFloor x = new AntFloor();
            Due.is("rule() of " + letters, Past.rule(x, 0, letters), AntFloor.NOT);
            Due.is("type() behind " + letters, x.type('N', 1), 1);
        }
    }

    static void promise04_notChangesButTheTape() {
        for (String letters : new String[] {"", "NUL", "NNNNN", "UNXU", "UUUX"}) {
            AntFloor x = Past.onARoad(0, letters);
            Due.is("rule(1) of " + letters, x.rule(1), AntFloor.NOT);
            Refused.sameRead("behind rule() of " + letters, x, Past.onARoad(0, ""));
        }
    }

    static void promise04_otherRulesStay() {
        AntFloor x = new AntFloor();
        Past.rule(x, 2, "UN");
        for (int r = 0; r < 4; r++) {
            Due.is("rule " + r + " at 0", Past.turned(x, r, 0, 0), r == 2 ? 2 : 1);
            Due.is("rule " + r + " at 1", Past.turned(x, r, 0, 1), r == 2 ? 0 : 3);
        }
    }

    static void promise04_antsThatAreThereTurnByIt() {
        AntFloor x = new AntFloor();
        x.ant(0, 0, 0, 3);
        Past.rule(x, 3, "UU");
        x.run(1);
        Due.is("told(0, 2)", x.told(0, 2), 2);
    }

    // ---- Promise 5: ant

    static void promise05_aCellBeyondIsBad() {
        for (int[] cell : Past.BEYOND) {
            Due.is(call("ant", cell), new AntFloor().ant(cell[0], cell[1], 0, 0), AntFloor.BAD);
        }
        for (int[] corner : Past.CORNERS) {
            Due.is(call("ant", corner), new AntFloor().ant(corner[0], corner[1], 0, 0), 0);
        }
    }

    static void promise05_theDirectionBelow0OrAboveTheLastIsBad() {
        for (int kind = 0; kind < 2; kind++) {
            int last = kind == 0 ? 3 : 5;
            AntFloor x = Past.of(kind, 2);
            for (int d : new int[] {-1, last + 1, LEAST, MOST}) {
                Due.is("kind " + kind + ", direction " + d, x.ant(0, 0, d, 0), AntFloor.BAD);
            }
            for (int d = 0; d <= last; d++) {
                Due.is("kind " + kind + ", direction " + d, x.ant(0, 0, d, 0), d);
                Due.is("told() of it", x.told(d, 2), d);
            }
        }
    }

    static void promise05_aRuleBelow0OrAbove3IsBad() {
        AntFloor x = new AntFloor();
        for (int r : new int[] {-1, 4, LEAST, MOST}) {
            Due.is("rule " + r, x.ant(0, 0, 0, r), AntFloor.BAD);
        }
        for (int r = 0; r < 4; r++) {
            Due.is("rule " + r, x.ant(0, 0, 0, r), r);
            Due.is("told() of it", x.told(r, 3), r);
        }
    }

    static void promise05_aSeventhIsFull() {
        AntFloor x = new AntFloor();
        for (int i = 0; i < 6; i++) {
            Due.is("ant " + i, x.ant(i, 0, 0, 0), i);
        }
        Due.is("a seventh", x.ant(0, 0, 0, 0), AntFloor.FULL);
        x.less();
        Due.is("behind less() there is room", x.ant(0, 0, 0, 0), 5);
    }

    static void promise05_badAheadOfFull() {
        int[][] wrong = {{120, 0, 0, 0}, {0, -121, 0, 0}, {0, 0, 4, 0}, {0, 0, 0, 4}};
        for (int[] w : wrong) {
            Due.is(call("ant", w), Past.sixAnts().ant(w[0], w[1], w[2], w[3]), AntFloor.BAD);
        }
    }

    static void promise05_badAndFullChangeNothing() {
        int[][] wrong = {{120, 0, 0, 0}, {-121, 0, 0, 0}, {0, -121, 0, 0}, {0, 120, 0, 0}, {0, 0, 4, 0}, {0, 0, -1, 0},
            {0, 0, 0, 4}, {0, 0, 0, -1}};
        for (int[] w : wrong) {
            Refused.changesNothing(call("ant", w), Past::onARoad, x -> x.ant(w[0], w[1], w[2], w[3]), AntFloor.BAD);
        }
        Refused.changesNothing("a seventh", Past::sixAnts, x -> x.ant(1, 1, 1, 1), AntFloor.FULL);
    }

    static void promise05_severalOnOneCell() {
        AntFloor x = new AntFloor();
        for (int i = 0; i < 6; i++) {
            Due.is("ant " + i, x.ant(7, 7, 0, 0), i);
        }
        Due.is("the cell is as it was", x.colour(7, 7), 0);
    }

    // ---- Promise 6: less

    static void promise06_ofNoneIsNot() {
        Due.is("at first", new AntFloor().less(), AntFloor.NOT);
        AntFloor x = new AntFloor();
        x.ant(0, 0, 0, 0);
        Due.is("the only one", x.less(), 0);
        Due.is("behind the only one", x.less(), AntFloor.NOT);
        x.ant(0, 0, 0, 0);
        x.floor(0, 2);
        Due.is("behind floor()", x.less(), AntFloor.NOT);
    }

    static void promise06_notChangesNothing() {
        Refused.changesNothing("less()", () -> {
            AntFloor x = new AntFloor();
            x.paint(1, 1, 1);
            x.run(3);
            x.mark();
            x.paint(1, 2, 1);
            return x;
        }, x -> x.less(), AntFloor.NOT);
    }

    static void promise06_fromSixToNone() {
        AntFloor x = Past.sixAnts();
        for (int left = 5; left >= 0; left--) {
            Due.is("less()", x.less(), left);
            Due.is("count(0)", x.count(0), left);
        }
        Due.is("less()", x.less(), AntFloor.NOT);
        Due.is("count(0)", x.count(0), 0);
    }

    static void promise06_theLastGoes() {
        AntFloor x = new AntFloor();
        x.ant(1, 2, 3, 0);
        x.ant(4, 5, 2, 1);
        x.less();
        Due.is("the first is there", x.told(0, 0), 1);
        Due.is("the last is not", x.told(1, 0), -1001);
        Due.is("the next has its number", x.ant(6, 7, 1, 2), 1);
        Due.is("but its own cell", x.told(1, 0), 6);
    }

    // ---- Promise 7: paint

    static void promise07_aCellBeyondIsBad() {
        for (int[] cell : Past.BEYOND) {
            AntFloor x = new AntFloor();
            Due.is(call("paint", cell), x.paint(cell[0], cell[1], 1), AntFloor.BAD);
            Due.is("nothing is painted", x.count(1), 0);
        }
    }

    static void promise07_cBelow0OrNIsBad() {
        for (int n = 2; n <= 12; n++) {
            AntFloor x = Past.of(1, n);
            for (int c : new int[] {-1, n, LEAST, MOST}) {
                Due.is("c " + c + " of n = " + n, x.paint(0, 0, c), AntFloor.BAD);
            }
            Due.is("c n - 1 of n = " + n, x.paint(0, 0, n - 1), 0);
        }
    }

    static void promise07_badChangesNothing() {
        int[][] wrong = {{0, 0, -1}, {0, 0, 4}, {120, 0, 0}, {-121, 0, 0}, {0, 120, 0}, {0, -121, 0}, {MOST, LEAST, 0}};
        for (int[] w : wrong) {
            Refused.changesNothing(call("paint", w), Past::onARoad, x -> x.paint(w[0], w[1], w[2]), AntFloor.BAD);
        }
    }

    static void promise07_answersWhatItWas() {
        AntFloor x = Past.of(0, 12);
        Due.is("0 becomes 11", x.paint(119, -120, 11), 0);
        Due.is("11 becomes 11", x.paint(119, -120, 11), 11);
        Due.is("11 becomes 0", x.paint(119, -120, 0), 11);
        Due.is("0 becomes 0", x.paint(119, -120, 0), 0);
    }

    static void promise07_isNoVisitAndNoStep() {
        AntFloor x = new AntFloor();
        x.paint(0, 0, 1);
        Due.is("count(3)", x.count(3), 0);
        Due.is("time()", x.time(), 0);
    }

    // ---- Promise 8: colour

    static void promise08_aCellBeyondIsBad() {
        AntFloor x = new AntFloor();
        for (int[] corner : Past.CORNERS) {
            x.paint(corner[0], corner[1], 1);
        }
        for (int[] cell : Past.BEYOND) {
            Due.is(call("colour", cell), x.colour(cell[0], cell[1]), AntFloor.BAD);
        }
    }

    static void promise08_cornersHaveTheirColours() {
        AntFloor x = Past.of(1, 5);
        for (int i = 0; i < 4; i++) {
            x.paint(Past.CORNERS[i][0], Past.CORNERS[i][1], i + 1);
        }
        for (int i = 0; i < 4; i++) {
            Due.is(call("colour", Past.CORNERS[i]), x.colour(Past.CORNERS[i][0], Past.CORNERS[i][1]), i + 1);
        }
    }

    static void promise08_changesNothing() {
        Refused.changesNothing("colour() beyond", Past::onARoad, x -> x.colour(120, 0), AntFloor.BAD);
        Refused.changesNothing("colour()", Past::onARoad, x -> x.colour(-7, 9), 3);
    }

    // ---- Promise 9: told

    static void promise09_noSuchAntIsBadLess1000() {
        AntFloor x = new AntFloor();
        Due.is("told(0, 0) of none", x.told(0, 0), -1001);
        x.ant(1, 2, 3, 3);
        x.ant(1, 2, 3, 3);
        x.less();
        for (int ant : new int[] {-1, 1, 5, 6, LEAST, MOST}) {
            for (int what = 0; what < 4; what++) {
                Due.is("told(" + ant + ", " + what + ")", x.told(ant, what), -1001);
            }
        }
    }

    static void promise09_whatBelow0OrAbove3IsBadLess1000() {
        AntFloor x = Past.sixAnts();
        for (int what : new int[] {-1, 4, LEAST, MOST}) {
            for (int ant = 0; ant < 6; ant++) {
                Due.is("told(" + ant + ", " + what + ")", x.told(ant, what), -1001);
            }
        }
    }

    static void promise09_numbersBelow0AreAnswersToo() {
        AntFloor x = new AntFloor();
        x.ant(-1, -120, 3, 2);
        int[] due = {-1, -120, 3, 2};
        for (int what = 0; what < 4; what++) {
            Due.is("told(0, " + what + ")", x.told(0, what), due[what]);
        }
    }

    static void promise09_theSixthAnt() {
        AntFloor x = new AntFloor();
        for (int i = 0; i < 6; i++) {
            x.ant(10 + i, -10 - i, i % 4, (i + 1) % 4);
        }
        int[] due = {15, -15, 1, 2};
        for (int what = 0; what < 4; what++) {
            Due.is("told(5, " + what + ")", x.told(5, what), due[what]);
        }
    }

    static void promise09_changesNothing() {
        Refused.changesNothing("told(1, 0)", Past::onARoad, x -> x.told(1, 0), -1001);
        Refused.changesNothing("told(0, 4)", Past::onARoad, x -> x.told(0, 4), -1001);
        Refused.changesNothing("told(0, 1)", Past::onARoad, x -> x.told(0, 1), 5);
    }
}
