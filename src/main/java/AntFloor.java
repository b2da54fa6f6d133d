import java.util.Arrays;

/** Ants on a floor of squares or of sixes; ../shared/DOC.md says what each call answers. */
public final class AntFloor {
    public static final int BAD = -1, NOT = -2, FULL = -3, EDGE = -4, NULL = -11, CAST = -12, INDEX = -13, SIZE = -14;

    private static final int LOW = -120;
    private static final int HIGH = 119;
    private static final int SIDE = 240;
    private static final int CELLS = SIDE * SIDE;
    private static final int NOWHERE = -1;

    private static final int SQUARES = 0;
    private static final int SIXES = 1;
    private static final int FEWEST_COLOURS = 2;
    private static final int MOST_COLOURS = 12;
    private static final int MOST_RULES = 4;
    private static final int MOST_ANTS = 6;
    private static final int MOST_STEPS = 2000;
    private static final int MOST_KEPT = 60;
    private static final int MOST_SHIFT = 300;

    private static final int MOST_SHEETS = 4;
    private static final int MOST_ITEMS = 60;
    private static final int BYTES = 0;
    private static final int SHORTS = 1;
    private static final int INTS = 2;
    private static final int NO_LANE = -1;
    private static final int FITS = 0;

    private static final int FIRST_COLOUR_COUNT = 10;
    // Answers of these calls may be small numbers below 0, so what is below 0 as told lies further off.
    private static final int FAR = 1000;
    private static final int FAR_MEETING = 1000000;
    private static final int FAR_VISITS = 10000000;

    private static final int[] SQUARES_X = {0, 1, 0, -1};
    private static final int[] SQUARES_Y = {1, 0, -1, 0};
    private static final int[] SIXES_X = {1, 0, -1, -1, 0, 1};
    private static final int[] SIXES_Y = {0, 1, 1, 0, -1, -1};

    private final Ground ground;
    private final Rules rules;
    private final Ant[] ants;
    private final int[] begun;
    private final Meetings meetings;
    private final Mark marked;
    private final Sheet[] sheets;
    private int antCount;
    private int now;

    public AntFloor() {
        ground = new Ground();
        rules = new Rules();
        ants = new Ant[MOST_ANTS];
        for (int i = 0; i < MOST_ANTS; i++) {
            ants[i] = new Ant();
        }
        begun = new int[MOST_ANTS];
        meetings = new Meetings();
        marked = new Mark();
        sheets = new Sheet[MOST_SHEETS];
        for (int i = 0; i < MOST_SHEETS; i++) {
            sheets[i] = new Sheet();
        }
        rules.restart(FEWEST_COLOURS, ground.directions());
    }

    // ---- 1 the floor, rules, ants

    public int floor(int kind, int n) {
        if (!isWithin(kind, SQUARES, SIXES) || !isWithin(n, FEWEST_COLOURS, MOST_COLOURS)) {
            return BAD;
        }
        int before = antCount;
        ground.restart(kind, n);
        rules.restart(n, ground.directions());
        meetings.forget();
        marked.forget();
        antCount = 0;
        now = 0;
        return before;
    }

    public int type(long w, int n) {
        if (!isWithin(n, 1, 8)) {
            return BAD;
        }
        return rules.hasRoomFor(n) ? rules.takeBytes(w, n) : FULL;
    }

    public int rule(int r) {
        if (!isRule(r)) {
            return BAD;
        }
        if (!rules.setFromTape(r, ground.colours, ground.directions())) {
            return NOT;
        }
        marked.spoil();
        return ground.colours;
    }

    public int ant(int x, int y, int direction, int rule) {
        if (!isOn(x, y) || !isWithin(direction, 0, ground.directions() - 1) || !isRule(rule)) {
            return BAD;
        }
        if (antCount >= MOST_ANTS) {
            return FULL;
        }
        ants[antCount].put(x, y, direction, rule);
        antCount++;
        marked.spoil();
        return antCount - 1;
    }

    public int less() {
        if (antCount <= 0) {
            return NOT;
        }
        antCount--;
        marked.spoil();
        return antCount;
    }

    public int paint(int x, int y, int c) {
        int place = placeOf(x, y);
        if (place < 0 || !isWithin(c, 0, ground.colours - 1)) {
            return BAD;
        }
        int before = ground.cells[place];
        ground.cells[place] = c;
        marked.spoil();
        return before;
    }

    public int colour(int x, int y) {
        int place = placeOf(x, y);
        return place < 0 ? BAD : ground.cells[place];
    }

    public int told(int ant, int what) {
        if (!isWithin(ant, 0, antCount - 1)) {
            return BAD - FAR;
        }
        switch (what) {
            case 0: return ants[ant].x;
            case 1: return ants[ant].y;
            case 2: return ants[ant].direction;
            case 3: return ants[ant].rule;
            default: return BAD - FAR;
        }
    }

    // ---- 2 steps

    public int run(int n) {
        if (n == 0 || !isWithin(n, -MOST_STEPS, MOST_STEPS)) {
            return BAD;
        }
        int wanted = n > 0 ? n : -n;
        int done = 0;
        while (done < wanted && (n > 0 ? stepAhead() : stepBack())) {
            done++;
        }
        return done == 0 ? EDGE : done;
    }

    public int time() {
        return now;
    }

    public int meeting(int i, int what) {
        if (!isWithin(i, 0, meetings.kept() - 1)) {
            return BAD - FAR_MEETING;
        }
        switch (what) {
            case 0: return meetings.times[i];
            case 1: return meetings.xs[i];
            case 2: return meetings.ys[i];
            case 3: return meetings.whos[i];
            default: return BAD - FAR_MEETING;
        }
    }

    public int visits(int x, int y) {
        int place = placeOf(x, y);
        return place < 0 ? BAD - FAR_VISITS : ground.comings[place];
    }

    public int count(int what) {
        switch (what) {
            case 0: return antCount;
            case 1: return CELLS - howMany(ground.cells, 0);
            case 2: return meetings.total;
            case 3: return CELLS - howMany(ground.comings, 0);
            case 4: return ground.colours;
            case 5: return ground.kind;
            default: break;
        }
        if (!isWithin(what, FIRST_COLOUR_COUNT, FIRST_COLOUR_COUNT + ground.colours - 1)) {
            return BAD;
        }
        return howMany(ground.cells, what - FIRST_COLOUR_COUNT);
    }

    public int bounds(int what) {
        switch (what) {
            case 0: return boundOr(ground.leastX());
            case 1: return boundOr(ground.greatestX());
            case 2: return boundOr(ground.leastY());
            case 3: return boundOr(ground.greatestY());
            default: return BAD - FAR;
        }
    }

    public long digest() {
        long h = 7;
        for (int y = SIDE - 1; y >= 0; y--) {
            int start = y * SIDE;
            for (int x = 0; x < SIDE; x++) {
                h = 31 * h + ground.cells[start + x];
            }
        }
        for (int i = 0; i < antCount; i++) {
            Ant one = ants[i];
            h = 31 * h + one.x;
            h = 31 * h + one.y;
            h = 31 * h + one.direction;
            h = 31 * h + one.rule;
        }
        return h;
    }

    // ---- 3 roads and images

    public int mark() {
        marked.take(ground.cells, ants[0], now);
        return now;
    }

    public int road(int what) {
        if (!isWithin(what, 0, 3)) {
            return BAD - FAR;
        }
        if (!marked.isTaken) {
            return NOT - FAR;
        }
        if (what == 3) {
            return marked.trodCount;
        }
        if (!isRoadShown()) {
            return what == 0 ? 0 : NOT - FAR;
        }
        switch (what) {
            case 0: return now - marked.time;
            case 1: return ants[0].x - marked.first.x;
            default: return ants[0].y - marked.first.y;
        }
    }

    public int differ() {
        if (!marked.isTaken) {
            return NOT;
        }
        int unlike = 0;
        for (int i = 0; i < CELLS; i++) {
            if (ground.cells[i] != marked.cells[i]) {
                unlike++;
            }
        }
        return unlike;
    }

    public int like(int way, int a, int b) {
        if (!isWithin(way, 0, 4) || !isWithin(a, -MOST_SHIFT, MOST_SHIFT) || !isWithin(b, -MOST_SHIFT, MOST_SHIFT)) {
            return BAD;
        }
        if (ground.kind == SIXES && way != 0) {
            return NOT;
        }
        return isLikeImage(way, a, b) ? 1 : 0;
    }

    // ---- 4 sheets

    public int sheet(int sheet, int lane, int n) {
        if (!isSheet(sheet) || !isLane(lane) || n > MOST_ITEMS) {
            return BAD;
        }
        if (n < 0) {
            return SIZE;
        }
        sheets[sheet].hold(lane, n);
        return n;
    }

    public int drop(int sheet) {
        if (!isSheet(sheet)) {
            return BAD;
        }
        Sheet one = sheets[sheet];
        if (one.isNothing()) {
            return NULL;
        }
        int before = one.length;
        one.hold(NO_LANE, 0);
        return before;
    }

    public int item(int sheet, int lane, int i, int v) {
        if (!isSheet(sheet) || !isLane(lane)) {
            return BAD;
        }
        Sheet one = sheets[sheet];
        int found = one.foundAs(lane);
        if (found != FITS) {
            return found;
        }
        if (!one.hasItems(i, 1)) {
            return INDEX;
        }
        one.items[i] = one.lowestBits(v);
        return 1;
    }

    public int lay(int sheet, int lane, int from, int n, int x, int y) {
        if (!isSheet(sheet) || !isLane(lane)) {
            return BAD;
        }
        Sheet one = sheets[sheet];
        int found = one.foundAs(lane);
        if (found != FITS) {
            return found;
        }
        if (n < 0) {
            return SIZE;
        }
        if (!one.hasItems(from, n)) {
            return INDEX;
        }
        // No items lie on no CELL, so none of these can be beyond THE FLOOR, and no ROAD is broken.
        if (n == 0) {
            return 0;
        }
        int start = placeOf(x, y);
        if (start < 0 || placeOf(x + n - 1, y) < 0 || !one.areColours(from, n, ground.colours)) {
            return BAD;
        }
        System.arraycopy(one.items, from, ground.cells, start, n);
        marked.spoil();
        return n;
    }

    public int copy(int from, int i, int to, int j, int n) {
        if (!isSheet(from) || !isSheet(to)) {
            return BAD;
        }
        Sheet source = sheets[from];
        Sheet target = sheets[to];
        if (source.isNothing() || target.isNothing()) {
            return NULL;
        }
        if (source.lane != target.lane) {
            return CAST;
        }
        if (!source.hasItems(i, n) || !target.hasItems(j, n)) {
            return INDEX;
        }
        System.arraycopy(source.items, i, target.items, j, n);
        return n;
    }

    // ---- what several calls ask

    private static boolean isWithin(int v, int low, int high) {
        return v >= low && v <= high;
    }

    private static boolean isOn(int x, int y) {
        return x >= LOW && x <= HIGH && y >= LOW && y <= HIGH;
    }

    private static boolean isRule(int r) {
        return isWithin(r, 0, MOST_RULES - 1);
    }

    private static boolean isSheet(int s) {
        return isWithin(s, 0, MOST_SHEETS - 1);
    }

    private static boolean isLane(int lane) {
        return isWithin(lane, BYTES, INTS);
    }

    /** Where a CELL stands in a row of all CELLS; NOWHERE, if it is beyond THE FLOOR. */
    private static int placeOf(int x, int y) {
        return isOn(x, y) ? (y - LOW) * SIDE + (x - LOW) : NOWHERE;
    }

    /** The COLOUR of a CELL in a row of all CELLS; beyond THE FLOOR it is 0. */
    private static int colourIn(int[] cells, int x, int y) {
        int place = placeOf(x, y);
        return place < 0 ? 0 : cells[place];
    }

    private static int howMany(int[] row, int v) {
        int found = 0;
        for (int i = 0; i < row.length; i++) {
            if (row[i] == v) {
                found++;
            }
        }
        return found;
    }

    private static int boundOr(int line) {
        return line < 0 ? BAD - FAR : line + LOW;
    }

    // ---- acts and steps

    private boolean stepAhead() {
        for (int i = 0; i < antCount; i++) {
            begun[i] = placeOf(ants[i].x, ants[i].y);
            if (!act(ants[i])) {
                takeBackActs(i);
                return false;
            }
        }
        now++;
        marked.tread(begun, antCount);
        noteMeetings();
        return true;
    }

    private boolean stepBack() {
        for (int i = antCount - 1; i >= 0; i--) {
            if (!actBack(ants[i])) {
                redoActs(i + 1);
                return false;
            }
        }
        now--;
        marked.spoil();
        return true;
    }

    // An ACT BACK undoes an ACT whole, its VISIT too, so a STEP that fails midway needs no copies.
    private void takeBackActs(int many) {
        for (int i = many - 1; i >= 0; i--) {
            actBack(ants[i]);
        }
    }

    private void redoActs(int first) {
        for (int i = first; i < antCount; i++) {
            act(ants[i]);
        }
    }

    /** False, and nothing is done, if the ANT would leave THE FLOOR. */
    private boolean act(Ant one) {
        int here = placeOf(one.x, one.y);
        if (here < 0) {
            return false;
        }
        int c = ground.cells[here];
        int direction = ground.turned(one.direction, rules.turns[one.rule][c]);
        int x = one.x + ground.stepX(direction);
        int y = one.y + ground.stepY(direction);
        if (!isOn(x, y)) {
            return false;
        }
        ground.cells[here] = c + 1 < ground.colours ? c + 1 : 0;
        ground.comings[here]++;
        one.put(x, y, direction, one.rule);
        return true;
    }

    /** False, and nothing is done, if the ANT would leave THE FLOOR. */
    private boolean actBack(Ant one) {
        int x = one.x - ground.stepX(one.direction);
        int y = one.y - ground.stepY(one.direction);
        int there = placeOf(x, y);
        if (there < 0) {
            return false;
        }
        int c = ground.cells[there] > 0 ? ground.cells[there] - 1 : ground.colours - 1;
        int direction = ground.turned(one.direction, -rules.turns[one.rule][c]);
        ground.cells[there] = c;
        ground.comings[there]--;
        one.put(x, y, direction, one.rule);
        return true;
    }

    private void noteMeetings() {
        int seen = 0;
        for (int i = 0; i < antCount; i++) {
            int bits = antsWith(i);
            // Bits of an ANT before this one say that its MEETING stands already.
            if ((seen & (1 << i)) == 0 && bits != (1 << i)) {
                meetings.keep(now, ants[i].x, ants[i].y, bits);
                seen |= bits;
            }
        }
    }

    private int antsWith(int i) {
        int bits = 0;
        for (int j = 0; j < antCount; j++) {
            if (ants[j].x == ants[i].x && ants[j].y == ants[i].y) {
                bits |= 1 << j;
            }
        }
        return bits;
    }

    // ---- roads and images

    private boolean isRoadShown() {
        if (antCount != 1 || marked.isSpoilt || now <= marked.time || !ants[0].goesAs(marked.first)) {
            return false;
        }
        int dx = ants[0].x - marked.first.x;
        int dy = ants[0].y - marked.first.y;
        return (dx != 0 || dy != 0) && comesBackShifted(dx, dy);
    }

    private boolean comesBackShifted(int dx, int dy) {
        for (int i = 0; i < CELLS; i++) {
            if (marked.trod[i] != 0 && !isCarriedOn(i % SIDE + LOW, i / SIDE + LOW, dx, dy)) {
                return false;
            }
        }
        return true;
    }

    /** Whether each CELL from (x, y) on, D by D, has what the one before it had at THE MARK. */
    private boolean isCarriedOn(int x, int y, int dx, int dy) {
        int nowX = x;
        int nowY = y;
        for (int k = 0; k < SIDE && isOn(nowX, nowY); k++) {
            int due = colourIn(marked.cells, nowX, nowY);
            nowX += dx;
            nowY += dy;
            if (colourIn(ground.cells, nowX, nowY) != due) {
                return false;
            }
        }
        return true;
    }

    // Each way taken twice leads home: a CELL of 0 that is unlike its image shows it at the image.
    private boolean isLikeImage(int way, int a, int b) {
        for (int i = 0; i < CELLS; i++) {
            int c = ground.cells[i];
            if (c != 0 && c != colourOfImage(way, a, b, i)) {
                return false;
            }
        }
        return true;
    }

    private int colourOfImage(int way, int a, int b, int place) {
        int x = place % SIDE + LOW;
        int y = place / SIDE + LOW;
        return colourIn(ground.cells, imageX(way, a, x, y), imageY(way, a, b, x, y));
    }

    private static int imageX(int way, int a, int x, int y) {
        switch (way) {
            case 2: return x;
            case 3: return y + a;
            case 4: return a - y;
            default: return a - x;
        }
    }

    private static int imageY(int way, int a, int b, int x, int y) {
        switch (way) {
            case 1: return y;
            case 3: return x - a;
            case 4: return a - x;
            default: return b - y;
        }
    }

    /** THE FLOOR: its kind, how many COLOURS it has, the COLOUR and the VISITS of each CELL. */
    private static final class Ground {
        int kind = SQUARES;
        int colours = FEWEST_COLOURS;
        final int[] cells = new int[CELLS];
        final int[] comings = new int[CELLS];

        void restart(int newKind, int newColours) {
            kind = newKind;
            colours = newColours;
            Arrays.fill(cells, 0);
            Arrays.fill(comings, 0);
        }

        int directions() {
            return kind == SIXES ? SIXES_X.length : SQUARES_X.length;
        }

        int stepX(int direction) {
            return kind == SIXES ? SIXES_X[direction] : SQUARES_X[direction];
        }

        int stepY(int direction) {
            return kind == SIXES ? SIXES_Y[direction] : SQUARES_Y[direction];
        }

        /** Turned by less than a whole round, either way. */
        int turned(int direction, int by) {
            int sum = direction + by;
            if (sum < 0) {
                return sum + directions();
            }
            return sum < directions() ? sum : sum - directions();
        }

        // The four searches answer a line's number from 0 on, NOWHERE if all CELLS are 0.

        int leastX() {
            for (int line = 0; line < SIDE; line++) {
                if (isColumnUsed(line)) {
                    return line;
                }
            }
            return NOWHERE;
        }

        int greatestX() {
            for (int line = SIDE - 1; line >= 0; line--) {
                if (isColumnUsed(line)) {
                    return line;
                }
            }
            return NOWHERE;
        }

        int leastY() {
            for (int i = 0; i < CELLS; i++) {
                if (cells[i] != 0) {
                    return i / SIDE;
                }
            }
            return NOWHERE;
        }

        int greatestY() {
            for (int i = CELLS - 1; i >= 0; i--) {
                if (cells[i] != 0) {
                    return i / SIDE;
                }
            }
            return NOWHERE;
        }

        private boolean isColumnUsed(int column) {
            for (int i = column; i < CELLS; i += SIDE) {
                if (cells[i] != 0) {
                    return true;
                }
            }
            return false;
        }
    }

    /** THE TAPE and the RULES; a RULE is kept as its turns, 0 .. one less than a whole round. */
    private static final class Rules {
        private static final int NO_LETTER = -1;
        final int[][] turns = new int[MOST_RULES][MOST_COLOURS];
        private final int[] tape = new int[MOST_COLOURS];
        private int typed;

        void restart(int colours, int directions) {
            for (int r = 0; r < MOST_RULES; r++) {
                for (int c = 0; c < colours; c++) {
                    turns[r][c] = turnOf(c % 2 == 0 ? 'R' : 'L', directions);
                }
            }
        }

        boolean hasRoomFor(int n) {
            return typed + n <= MOST_COLOURS;
        }

        int takeBytes(long w, int n) {
            for (int k = n - 1; k >= 0; k--) {
                tape[typed] = (int) (w >>> (8 * k)) & 255;
                typed++;
            }
            return typed;
        }

        /** THE TAPE is empty then; false, and no RULE is changed, if it is no RULE here. */
        boolean setFromTape(int r, int colours, int directions) {
            boolean fits = typed == colours;
            for (int i = 0; i < typed; i++) {
                fits = fits && turnOf(tape[i], directions) != NO_LETTER;
            }
            for (int i = 0; i < typed && fits; i++) {
                turns[r][i] = turnOf(tape[i], directions);
            }
            typed = 0;
            return fits;
        }

        private static int turnOf(int letter, int directions) {
            boolean isOfSixes = directions == SIXES_X.length;
            switch (letter) {
                case 'N': return 0;
                case 'R': return 1;
                case 'U': return directions / 2;
                case 'L': return directions - 1;
                case 'S': return isOfSixes ? 2 : NO_LETTER;
                case 'M': return isOfSixes ? directions - 2 : NO_LETTER;
                default: return NO_LETTER;
            }
        }
    }

    private static final class Ant {
        int x;
        int y;
        int direction;
        int rule;

        void put(int newX, int newY, int newDirection, int newRule) {
            x = newX;
            y = newY;
            direction = newDirection;
            rule = newRule;
        }

        boolean goesAs(Ant other) {
            return direction == other.direction && rule == other.rule;
        }
    }

    /** The first MEETINGS, and how many there were in all. */
    private static final class Meetings {
        int total;
        final int[] times = new int[MOST_KEPT];
        final int[] xs = new int[MOST_KEPT];
        final int[] ys = new int[MOST_KEPT];
        final int[] whos = new int[MOST_KEPT];

        void forget() {
            total = 0;
        }

        int kept() {
            return total < MOST_KEPT ? total : MOST_KEPT;
        }

        void keep(int when, int x, int y, int who) {
            if (total < MOST_KEPT) {
                times[total] = when;
                xs[total] = x;
                ys[total] = y;
                whos[total] = who;
            }
            total++;
        }
    }

    /** THE MARK, V, and whether anything since lets no ROAD be shown. */
    private static final class Mark {
        boolean isTaken;
        boolean isSpoilt;
        int time;
        int trodCount;
        // A ROAD asks for one ANT alone, so of the ANTS the first is enough.
        final Ant first = new Ant();
        final int[] cells = new int[CELLS];
        final int[] trod = new int[CELLS];

        void forget() {
            isTaken = false;
        }

        void take(int[] floorCells, Ant firstAnt, int when) {
            isTaken = true;
            isSpoilt = false;
            time = when;
            first.put(firstAnt.x, firstAnt.y, firstAnt.direction, firstAnt.rule);
            System.arraycopy(floorCells, 0, cells, 0, CELLS);
            Arrays.fill(trod, 0);
            trodCount = 0;
        }

        void spoil() {
            isSpoilt = true;
        }

        void tread(int[] places, int many) {
            for (int i = 0; i < many && isTaken; i++) {
                if (trod[places[i]] == 0) {
                    trod[places[i]] = 1;
                    trodCount++;
                }
            }
        }
    }

    /** A row of a LANE, kept in ints: what goes in is cut to the LANE's bits first. */
    private static final class Sheet {
        int lane = NO_LANE;
        int length;
        final int[] items = new int[MOST_ITEMS];

        void hold(int newLane, int n) {
            lane = newLane;
            length = n;
            Arrays.fill(items, 0);
        }

        boolean isNothing() {
            return lane == NO_LANE;
        }

        /** What the machine finds where this is taken as a row of a LANE: FITS, NULL, CAST. */
        int foundAs(int asLane) {
            if (isNothing()) {
                return NULL;
            }
            return lane == asLane ? FITS : CAST;
        }

        boolean hasItems(int from, int n) {
            return from >= 0 && n >= 0 && from <= length - n;
        }

        int lowestBits(int v) {
            switch (lane) {
                case BYTES: return (byte) v;
                case SHORTS: return (short) v;
                default: return v;
            }
        }

        boolean areColours(int from, int n, int colours) {
            for (int i = from; i < from + n; i++) {
                if (!isWithin(items[i], 0, colours - 1)) {
                    return false;
                }
            }
            return true;
        }
    }
}
