/** Long mixed runs of calls, each answer against that of Plain, the document written out once more. */
public final class ModelTest {
    private final Dice dice;
    private final String run;
    private final AntFloor real = new AntFloor();
    private final Plain plain = new Plain();
    /** How far from (0, 0) ants and paint mostly fall; small, so that ants meet. */
    private int reach;
    private int calls = 0;

    private ModelTest(long seed) {
        dice = new Dice(seed);
        run = "run " + seed + ": ";
        reach = dice.of(1, 2, 4, 10);
    }

    public static void main(String[] args) {
        for (int seed = 1; seed <= 60; seed++) {
            ModelTest one = new ModelTest(seed);
            switch (seed % 4) {
                case 0: one.mixed(480); break;
                case 1: one.roads(); break;
                case 2: one.sheets(500); break;
                default: one.images(); break;
            }
        }
        for (int seed = 100; seed < 108; seed++) {
            new ModelTest(seed).highway(seed);
        }
        Due.end();
    }

    private void due(String call, long got, long want) {
        calls++;
        Due.is(run + calls + " " + call, got, want);
    }

    // ---- numbers that are mostly as told

    private int near() {
        return dice.once(40) ? dice.of(-121, 120, Integer.MIN_VALUE, Integer.MAX_VALUE, 119, -120) : dice.from(-reach, reach);
    }

    private int small(int low, int high) {
        return dice.once(30) ? dice.of(low - 1, high + 1, Integer.MIN_VALUE, Integer.MAX_VALUE) : dice.from(low, high);
    }

    // ---- single calls on both

    private void floor() {
        int kind = small(0, 1);
        int n = dice.once(3) ? small(2, 12) : small(2, 4);
        due("floor(" + kind + ", " + n + ")", real.floor(kind, n), plain.floor(kind, n));
    }

    private void type(long w, int n) {
        due("type(" + w + ", " + n + ")", real.type(w, n), plain.type(w, n));
    }

    private void rule(int r) {
        due("rule(" + r + ")", real.rule(r), plain.rule(r));
    }

    /** Types a whole RULE (now and then with a letter too few, or one that is none) and takes it. */
    private void anyRule() {
        int n = real.count(4) - (dice.once(10) ? 1 : 0);
        String letters = dice.once(12) ? "NRULSMrX" : real.count(5) == 0 ? "NRUL" : "NRULSM";
        long w = 0;
        int waiting = 0;
        for (int i = 0; i < n; i++) {
            w = w << 8 | letters.charAt(dice.from(0, letters.length() - 1));
            waiting++;
            if (waiting == 8) {
                type(w, waiting);
                waiting = 0;
            }
        }
        if (waiting > 0) {
            type(w, waiting);
        }
        rule(small(0, 3));
    }

    private void ant() {
        int x = near();
        int y = near();
        int direction = small(0, real.count(5) == 0 ? 3 : 5);
        int rule = small(0, 3);
        due("ant(" + x + ", " + y + ", " + direction + ", " + rule + ")", real.ant(x, y, direction, rule),
            plain.ant(x, y, direction, rule));
    }

    private void less() {
        due("less()", real.less(), plain.less());
    }

    private void paint(int x, int y, int c) {
        due("paint(" + x + ", " + y + ", " + c + ")", real.paint(x, y, c), plain.paint(x, y, c));
    }

    private void run(int n) {
        due("run(" + n + ")", real.run(n), plain.run(n));
    }

    private void mark() {
        due("mark()", real.mark(), plain.mark());
    }

    private void roadAll() {
        for (int what = 0; what < 4; what++) {
            due("road(" + what + ")", real.road(what), plain.road(what));
        }
        due("differ()", real.differ(), plain.differ());
    }

    private void like(int way, int a, int b) {
        due("like(" + way + ", " + a + ", " + b + ")", real.like(way, a, b), plain.like(way, a, b));
    }

    private void digest() {
        due("digest()", real.digest(), plain.digest());
    }

    private void ask() {
        int x = near();
        int y = near();
        int i = dice.once(5) ? small(0, 61) : small(0, Math.max(0, real.count(2)));
        int what = small(0, 3);
        int which = small(0, 22);
        int who = small(0, 6);
        due("colour(" + x + ", " + y + ")", real.colour(x, y), plain.colour(x, y));
        due("visits(" + x + ", " + y + ")", real.visits(x, y), plain.visits(x, y));
        due("told(" + who + ", " + what + ")", real.told(who, what), plain.told(who, what));
        due("time()", real.time(), plain.time());
        due("meeting(" + i + ", " + what + ")", real.meeting(i, what), plain.meeting(i, what));
        due("count(" + which + ")", real.count(which), plain.count(which));
        due("bounds(" + what + ")", real.bounds(what), plain.bounds(what));
        due("road(" + what + ")", real.road(what), plain.road(what));
    }

    private void sheetCall() {
        int s = small(0, 3);
        int t = small(0, 3);
        int lane = small(0, dice.of(0, 0, 2));
        int n = dice.once(3) ? dice.of(-1, 0, 60, 61, Integer.MIN_VALUE, Integer.MAX_VALUE) : dice.from(0, 9);
        int i = dice.once(10) ? dice.of(-1, 60, 61, Integer.MIN_VALUE, Integer.MAX_VALUE) : dice.from(0, 9);
        int j = dice.once(10) ? dice.of(-1, 60, 61, Integer.MIN_VALUE, Integer.MAX_VALUE) : dice.from(0, 9);
        int x = dice.once(4) ? dice.from(110, 121) : near();
        int y = near();
        int v = dice.once(4) ? (int) dice.next() : dice.from(0, 3) + 256 * dice.from(0, 300);
        switch (dice.from(0, 9)) {
            case 0: case 1:
                due("sheet(" + s + ", " + lane + ", " + n + ")", real.sheet(s, lane, n), plain.sheet(s, lane, n));
                break;
            case 2:
                if (dice.once(4)) {
                    due("drop(" + s + ")", real.drop(s), plain.drop(s));
                }
                break;
            case 3: case 4: case 5:
                due("item(" + s + ", " + lane + ", " + i + ", " + v + ")", real.item(s, lane, i, v), plain.item(s, lane, i, v));
                break;
            case 6: case 7:
                due("lay(" + s + ", " + lane + ", " + i + ", " + n + ", " + x + ", " + y + ")",
                    real.lay(s, lane, i, n, x, y), plain.lay(s, lane, i, n, x, y));
                break;
            default:
                due("copy(" + s + ", " + i + ", " + t + ", " + j + ", " + n + ")",
                    real.copy(s, i, t, j, n), plain.copy(s, i, t, j, n));
                break;
        }
    }

    // ---- runs

    private void mixed(int most) {
        while (calls < most) {
            switch (dice.from(0, 15)) {
                case 0: if (dice.once(6)) { floor(); } break;
                case 1: anyRule(); break;
                case 2: case 3: case 4: ant(); break;
                case 5: if (dice.once(3)) { less(); } break;
                case 6: paint(near(), near(), small(0, real.count(4) - 1)); break;
                case 7: case 8: run(small(1, 60)); break;
                case 9: run(-small(1, 60)); break;
                case 10: if (dice.once(2)) { run(dice.of(2000, -2000, 2001, -2001, 0)); } break;
                case 11: if (dice.once(2)) { mark(); } break;
                case 12: sheetCall(); break;
                case 13: if (dice.once(3)) { digest(); } break;
                case 14: roadAll(); break;
                default: ask(); break;
            }
        }
        digest();
    }

    private void sheets(int most) {
        while (calls < most) {
            if (dice.once(40)) {
                floor();
            }
            sheetCall();
            if (dice.once(25)) {
                mark();
                sheetCall();
                roadAll();
            }
        }
        digest();
    }

    /** One ANT that mostly goes straight over a floor that is painted again and again ahead of it. */
    private void roads() {
        while (calls < 380) {
            int kind = dice.from(0, 1);
            int n = dice.from(2, 3);
            due("floor(" + kind + ", " + n + ")", real.floor(kind, n), plain.floor(kind, n));
            int letters = dice.of(0x4E4E4E, 0x4E4E52, 0x524C4E, 0x4C524C, 0x4E524C);
            type(letters, n);
            rule(0);
            int direction = dice.from(0, 3 + 2 * kind);
            due("ant(0, 0, " + direction + ", 0)", real.ant(0, 0, direction, 0), plain.ant(0, 0, direction, 0));
            int period = dice.from(1, 40);
            int c = dice.from(0, n - 1);
            for (int k = 0; k < 3; k++) {
                int far = dice.from(-1, 3) * period + dice.from(0, 1);
                paint(far * (direction == 1 ? 1 : 0), far * (direction == 0 ? 1 : 0), c);
            }
            mark();
            for (int i = 0; i < 4; i++) {
                run(dice.once(8) ? -1 : period);
                roadAll();
            }
            if (dice.once(2)) {
                paint(0, 0, 0);
                roadAll();
            }
        }
    }

    private void highway(int seed) {
        int x = dice.from(-3, 3);
        int y = dice.from(-3, 3);
        due("ant(" + x + ", " + y + ", " + seed % 4 + ", 0)", real.ant(x, y, seed % 4, 0), plain.ant(x, y, seed % 4, 0));
        for (int i = 0; i < 5; i++) {
            run(2000);
        }
        for (int i = 0; i < 12; i++) {
            mark();
            run(dice.of(103, 104, 104, 208, 312, 52));
            roadAll();
            run(dice.of(104, 1, 208));
            roadAll();
        }
        for (int i = 0; i < 4; i++) {
            run(2000);
            ask();
        }
        run(1);
        digest();
    }

    /** Pictures painted with their images, then now and then spoilt at one place. */
    private void images() {
        while (calls < 400) {
            if (calls == 0 || dice.once(3)) {
                int kind = dice.once(4) ? 1 : 0;
                due("floor(" + kind + ", 3)", real.floor(kind, 3), plain.floor(kind, 3));
            }
            int way = dice.from(0, 4);
            int a = dice.once(6) ? dice.from(-300, 300) : dice.from(-6, 6);
            int b = dice.once(6) ? dice.from(-300, 300) : dice.from(-6, 6);
            for (int k = 0; k < 3; k++) {
                int x = dice.once(8) ? dice.of(-120, 119) : dice.from(-8, 8);
                int y = dice.once(8) ? dice.of(-120, 119) : dice.from(-8, 8);
                int c = dice.from(0, 2);
                int[][] images = {{a - x, b - y}, {a - x, y}, {x, b - y}, {y + a, x - a}, {a - y, a - x}};
                paint(x, y, c);
                paint(images[way][0], images[way][1], c);
            }
            like(way, a, b);
            like(dice.from(0, 4), a, b);
            if (dice.once(3)) {
                paint(dice.from(-8, 8), dice.from(-8, 8), dice.from(0, 2));
                like(way, a, b);
            }
            like(small(0, 4), dice.of(-301, 301, 300, -300, 0), dice.of(0, 0, 301, -301));
        }
    }
}
