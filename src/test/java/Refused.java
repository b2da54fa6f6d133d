import java.util.ArrayList;
import java.util.List;
import java.util.function.Supplier;
import java.util.function.ToLongFunction;

/** "What answers so changes nothing": of two objects with the same past one refuses a call, then both are read. */
final class Refused {
    private static final int[][] LOOKED_AT = {{0, 0}, {0, 1}, {0, 2}, {0, 3}, {0, 4}, {0, 5}, {-1, 3}, {1, 3}, {-7, 9},
        {5, 110}, {5, 118}, {5, 119}, {5, -120}, {119, 119}, {-120, -120}};

    private final AntFloor x;
    private final List<String> lines = new ArrayList<>();

    private Refused(AntFloor x) {
        this.x = x;
    }

    static void changesNothing(String call, Supplier<AntFloor> past, ToLongFunction<AntFloor> refused, long due) {
        AntFloor asked = past.get();
        Due.is(call, refused.applyAsLong(asked), due);
        sameRead("behind " + call, asked, past.get());
    }

    /** Reading changes both objects, so they are of no use then. */
    static void sameRead(String when, AntFloor one, AntFloor other) {
        List<String> got = new Refused(one).read();
        List<String> want = new Refused(other).read();
        for (int i = 0; i < want.size(); i++) {
            if (!got.get(i).equals(want.get(i))) {
                Due.fail(when + " " + got.get(i) + ", due is " + want.get(i));
                return;
            }
        }
    }

    private void note(String call, long answer) {
        lines.add(call + " answers " + answer);
    }

    private List<String> read() {
        floorAndAnts();
        stepsAndRoads();
        sheets();
        tapeAndRules();
        return lines;
    }

    private void floorAndAnts() {
        note("digest()", x.digest());
        for (int what = -1; what <= 22; what++) {
            note("count(" + what + ")", x.count(what));
        }
        for (int what = 0; what < 4; what++) {
            note("bounds(" + what + ")", x.bounds(what));
        }
        for (int ant = 0; ant < 6; ant++) {
            for (int what = 0; what < 4; what++) {
                note("told(" + ant + ", " + what + ")", x.told(ant, what));
            }
        }
    }

    private void stepsAndRoads() {
        note("time()", x.time());
        for (int i = 0; i < 3; i++) {
            for (int what = 0; what < 4; what++) {
                note("meeting(" + i + ", " + what + ")", x.meeting(i, what));
            }
        }
        for (int[] cell : LOOKED_AT) {
            note("visits(" + cell[0] + ", " + cell[1] + ")", x.visits(cell[0], cell[1]));
        }
        for (int what = 0; what < 4; what++) {
            note("road(" + what + ")", x.road(what));
        }
        note("differ()", x.differ());
    }

    private void sheets() {
        for (int s = 0; s < 4; s++) {
            for (int lane = 0; lane < 3; lane++) {
                int found = x.lay(s, lane, 0, 0, 0, 0);
                note("sheet " + s + " as lane " + lane + ": lay()", found);
                for (int i = 0; i < 5 && found == 0; i++) {
                    note("lay() of item " + i, x.lay(s, lane, i, 1, i, 100 + s));
                }
            }
            note("drop(" + s + ")", x.drop(s));
        }
        note("digest() behind lay()", x.digest());
    }

    /** With the letter that is typed here THE TAPE of most pasts is a RULE. */
    private void tapeAndRules() {
        note("type()", x.type('N', 1));
        note("rule(3)", x.rule(3));
        for (int i = 0; i < 6; i++) {
            x.less();
        }
        int n = x.count(4);
        for (int r = 0; r < 4; r++) {
            for (int c = 0; c < n; c++) {
                x.paint(0, 0, c);
                x.ant(0, 0, 0, r);
                x.run(1);
                note("the turn of rule " + r + " at " + c + ": told()", x.told(0, 2));
                x.less();
            }
        }
    }
}
