import java.util.ArrayList;
import java.util.HashMap;
import java.util.HashSet;
import java.util.List;
import java.util.Map;
import java.util.Set;

/**
 * The document once more, written as it is read: cells in a map, a whole copy ahead of each step,
 * sheets as real rows of bytes, shorts and ints in which the machine itself finds what it finds.
 */
final class Plain {
    private static final int BAD = -1, NOT = -2, FULL = -3, EDGE = -4, NULL = -11, CAST = -12, INDEX = -13, SIZE = -14;
    private static final int[][][] WAYS = {
        {{0, 1}, {1, 0}, {0, -1}, {-1, 0}},
        {{1, 0}, {0, 1}, {-1, 1}, {-1, 0}, {0, -1}, {1, -1}}};

    private record Cell(int x, int y) {
        boolean isOn() {
            return x >= -120 && x <= 119 && y >= -120 && y <= 119;
        }

        Cell plus(int times, int[] by) {
            return new Cell(x + times * by[0], y + times * by[1]);
        }
    }

    private record Walker(Cell cell, int direction, int rule) {
    }

    private record Met(int time, Cell cell, int who) {
    }

    private int kind = 0;
    private int n = 2;
    private Map<Cell, Integer> colours = new HashMap<>();
    private Map<Cell, Integer> comings = new HashMap<>();
    private List<Walker> walkers = new ArrayList<>();
    private final List<Met> met = new ArrayList<>();
    private final String[] rules = new String[4];
    private String tape = "";
    private int time = 0;

    private boolean isMarked = false;
    private boolean isBroken;
    private int markTime;
    private Map<Cell, Integer> markColours;
    private List<Walker> markWalkers;
    private Set<Cell> begunSince;

    private final Object[] sheets = new Object[4];

    Plain() {
        usualRules();
    }

    private void usualRules() {
        for (int r = 0; r < 4; r++) {
            rules[r] = "RLRLRLRLRLRL".substring(0, n);
        }
    }

    private int get(Cell c) {
        return colours.getOrDefault(c, 0);
    }

    private void set(Cell c, int v) {
        if (v == 0) {
            colours.remove(c);
        } else {
            colours.put(c, v);
        }
    }

    int floor(int newKind, int newN) {
        if (newKind < 0 || newKind > 1 || newN < 2 || newN > 12) {
            return BAD;
        }
        int were = walkers.size();
        kind = newKind;
        n = newN;
        colours.clear();
        comings.clear();
        walkers.clear();
        met.clear();
        usualRules();
        time = 0;
        isMarked = false;
        return were;
    }

    int type(long w, int many) {
        if (many < 1 || many > 8) {
            return BAD;
        }
        if (tape.length() + many > 12) {
            return FULL;
        }
        for (int k = many; k > 0; k--) {
            tape += (char) ((w >> (8 * (k - 1))) & 0xFF);
        }
        return tape.length();
    }

    int rule(int r) {
        if (r < 0 || r > 3) {
            return BAD;
        }
        String t = tape;
        tape = "";
        if (t.length() != n) {
            return NOT;
        }
        for (char c : t.toCharArray()) {
            if ((kind == 0 ? "NRUL" : "NRULSM").indexOf(c) < 0) {
                return NOT;
            }
        }
        rules[r] = t;
        isBroken = true;
        return n;
    }

    int ant(int x, int y, int direction, int rule) {
        Cell c = new Cell(x, y);
        if (!c.isOn() || direction < 0 || direction >= WAYS[kind].length || rule < 0 || rule > 3) {
            return BAD;
        }
        if (walkers.size() == 6) {
            return FULL;
        }
        walkers.add(new Walker(c, direction, rule));
        isBroken = true;
        return walkers.size() - 1;
    }

    int less() {
        if (walkers.isEmpty()) {
            return NOT;
        }
        walkers.remove(walkers.size() - 1);
        isBroken = true;
        return walkers.size();
    }

    int paint(int x, int y, int c) {
        Cell cell = new Cell(x, y);
        if (!cell.isOn() || c < 0 || c >= n) {
            return BAD;
        }
        int was = get(cell);
        set(cell, c);
        isBroken = true;
        return was;
    }

    int colour(int x, int y) {
        Cell cell = new Cell(x, y);
        return cell.isOn() ? get(cell) : BAD;
    }

    int told(int ant, int what) {
        if (ant < 0 || ant >= walkers.size() || what < 0 || what > 3) {
            return -1001;
        }
        Walker w = walkers.get(ant);
        return new int[] {w.cell.x, w.cell.y, w.direction, w.rule}[what];
    }

    private int turn(int rule, int colour) {
        switch (rules[rule].charAt(colour)) {
            case 'N': return 0;
            case 'R': return 1;
            case 'U': return kind == 0 ? 2 : 3;
            case 'L': return -1;
            case 'S': return 2;
            default: return -2;
        }
    }

    /** False: the state is to be as before, the caller sees to it. */
    private boolean actAll() {
        for (int i = 0; i < walkers.size(); i++) {
            Walker w = walkers.get(i);
            int c = get(w.cell);
            int d = Math.floorMod(w.direction + turn(w.rule, c), WAYS[kind].length);
            Cell to = w.cell.plus(1, WAYS[kind][d]);
            if (!to.isOn()) {
                return false;
            }
            set(w.cell, (c + 1) % n);
            comings.merge(w.cell, 1, Integer::sum);
            walkers.set(i, new Walker(to, d, w.rule));
        }
        return true;
    }

    private boolean actAllBack() {
        for (int i = walkers.size() - 1; i >= 0; i--) {
            Walker w = walkers.get(i);
            Cell to = w.cell.plus(-1, WAYS[kind][w.direction]);
            if (!to.isOn()) {
                return false;
            }
            int c = Math.floorMod(get(to) - 1, n);
            set(to, c);
            comings.merge(to, -1, Integer::sum);
            walkers.set(i, new Walker(to, Math.floorMod(w.direction - turn(w.rule, c), WAYS[kind].length), w.rule));
        }
        return true;
    }

    private boolean step(boolean ahead) {
        List<Walker> before = new ArrayList<>(walkers);
        // Only these cells can change in a step, so only they are copied.
        Map<Cell, int[]> old = new HashMap<>();
        for (Walker w : before) {
            Cell c = ahead ? w.cell : w.cell.plus(-1, WAYS[kind][w.direction]);
            old.put(c, new int[] {get(c), comings.getOrDefault(c, 0)});
        }
        if (!(ahead ? actAll() : actAllBack())) {
            walkers = before;
            for (Map.Entry<Cell, int[]> e : old.entrySet()) {
                set(e.getKey(), e.getValue()[0]);
                comings.put(e.getKey(), e.getValue()[1]);
            }
            return false;
        }
        time += ahead ? 1 : -1;
        if (!ahead) {
            isBroken = true;
            return true;
        }
        for (Walker w : before) {
            if (isMarked) {
                begunSince.add(w.cell);
            }
        }
        meet();
        return true;
    }

    private void meet() {
        Map<Cell, Integer> who = new HashMap<>();
        for (int i = 0; i < walkers.size(); i++) {
            who.merge(walkers.get(i).cell, 1 << i, (a, b) -> a | b);
        }
        for (int i = 0; i < walkers.size(); i++) {
            Cell c = walkers.get(i).cell;
            int bits = who.get(c);
            if (Integer.bitCount(bits) > 1 && Integer.numberOfTrailingZeros(bits) == i) {
                met.add(new Met(time, c, bits));
            }
        }
    }

    int run(int steps) {
        if (steps == 0 || steps > 2000 || steps < -2000) {
            return BAD;
        }
        int done = 0;
        while (done < Math.abs(steps) && step(steps > 0)) {
            done++;
        }
        return done == 0 ? EDGE : done;
    }

    int time() {
        return time;
    }

    int meeting(int i, int what) {
        if (i < 0 || i >= met.size() || i >= 60 || what < 0 || what > 3) {
            return -1000001;
        }
        Met m = met.get(i);
        return new int[] {m.time, m.cell.x, m.cell.y, m.who}[what];
    }

    int visits(int x, int y) {
        Cell c = new Cell(x, y);
        return c.isOn() ? comings.getOrDefault(c, 0) : -10000001;
    }

    int count(int what) {
        switch (what) {
            case 0: return walkers.size();
            case 1: return colours.size();
            case 2: return met.size();
            case 3: return (int) comings.values().stream().filter(v -> v != 0).count();
            case 4: return n;
            case 5: return kind;
            case 10: return 57600 - colours.size();
            default: break;
        }
        if (what < 10 || what >= 10 + n) {
            return BAD;
        }
        return (int) colours.values().stream().filter(v -> v == what - 10).count();
    }

    int bounds(int what) {
        if (colours.isEmpty() || what < 0 || what > 3) {
            return -1001;
        }
        int best = what % 2 == 0 ? 1000 : -1000;
        for (Cell c : colours.keySet()) {
            int v = what < 2 ? c.x : c.y;
            best = what % 2 == 0 ? Math.min(best, v) : Math.max(best, v);
        }
        return best;
    }

    long digest() {
        long h = 7;
        for (int y = 119; y >= -120; y--) {
            for (int x = -120; x <= 119; x++) {
                h = h * 31 + get(new Cell(x, y));
            }
        }
        for (Walker w : walkers) {
            h = h * 31 + w.cell.x;
            h = h * 31 + w.cell.y;
            h = h * 31 + w.direction;
            h = h * 31 + w.rule;
        }
        return h;
    }

    int mark() {
        isMarked = true;
        isBroken = false;
        markTime = time;
        markColours = new HashMap<>(colours);
        markWalkers = new ArrayList<>(walkers);
        begunSince = new HashSet<>();
        return time;
    }

    private boolean roadShown() {
        if (walkers.size() != 1 || isBroken || time <= markTime) {
            return false;
        }
        Walker now = walkers.get(0);
        Walker then = markWalkers.get(0);
        int[] d = {now.cell.x - then.cell.x, now.cell.y - then.cell.y};
        if (now.direction != then.direction || now.rule != then.rule || (d[0] == 0 && d[1] == 0)) {
            return false;
        }
        for (Cell v : begunSince) {
            for (int k = 0; k < 245; k++) {
                if (get(v.plus(k + 1, d)) != markColours.getOrDefault(v.plus(k, d), 0)) {
                    return false;
                }
            }
        }
        return true;
    }

    int road(int what) {
        if (what < 0 || what > 3) {
            return -1001;
        }
        if (!isMarked) {
            return -1002;
        }
        if (what == 3) {
            return begunSince.size();
        }
        if (!roadShown()) {
            return what == 0 ? 0 : -1002;
        }
        Cell now = walkers.get(0).cell;
        Cell then = markWalkers.get(0).cell;
        return new int[] {time - markTime, now.x - then.x, now.y - then.y}[what];
    }

    int differ() {
        if (!isMarked) {
            return NOT;
        }
        Set<Cell> all = new HashSet<>(colours.keySet());
        all.addAll(markColours.keySet());
        return (int) all.stream().filter(c -> get(c) != markColours.getOrDefault(c, 0)).count();
    }

    int like(int way, int a, int b) {
        if (way < 0 || way > 4 || Math.abs((long) a) > 300 || Math.abs((long) b) > 300) {
            return BAD;
        }
        if (kind == 1 && way > 0) {
            return NOT;
        }
        for (int x = -120; x < 120; x++) {
            for (int y = -120; y < 120; y++) {
                Cell[] images = {new Cell(a - x, b - y), new Cell(a - x, y), new Cell(x, b - y),
                    new Cell(y + a, x - a), new Cell(a - y, a - x)};
                if (get(new Cell(x, y)) != get(images[way])) {
                    return 0;
                }
            }
        }
        return 1;
    }

    private static boolean isSheet(int s) {
        return s >= 0 && s <= 3;
    }

    int sheet(int s, int lane, int many) {
        if (!isSheet(s) || lane < 0 || lane > 2 || many > 60) {
            return BAD;
        }
        try {
            sheets[s] = lane == 0 ? new byte[many] : lane == 1 ? new short[many] : (Object) new int[many];
            return many;
        } catch (NegativeArraySizeException e) {
            return SIZE;
        }
    }

    private static int sizeOf(Object row) {
        return java.lang.reflect.Array.getLength(row);
    }

    int drop(int s) {
        if (!isSheet(s)) {
            return BAD;
        }
        if (sheets[s] == null) {
            return NULL;
        }
        int had = sizeOf(sheets[s]);
        sheets[s] = null;
        return had;
    }

    int item(int s, int lane, int i, int v) {
        if (!isSheet(s) || lane < 0 || lane > 2) {
            return BAD;
        }
        if (sheets[s] == null) {
            return NULL;
        }
        try {
            switch (lane) {
                case 0: ((byte[]) sheets[s])[i] = (byte) v; break;
                case 1: ((short[]) sheets[s])[i] = (short) v; break;
                default: ((int[]) sheets[s])[i] = v; break;
            }
            return 1;
        } catch (ClassCastException e) {
            return CAST;
        } catch (ArrayIndexOutOfBoundsException e) {
            return INDEX;
        }
    }

    private static int at(Object row, int lane, int i) {
        return lane == 0 ? ((byte[]) row)[i] : lane == 1 ? ((short[]) row)[i] : ((int[]) row)[i];
    }

    int lay(int s, int lane, int from, int many, int x, int y) {
        if (!isSheet(s) || lane < 0 || lane > 2) {
            return BAD;
        }
        Object row = sheets[s];
        if (row == null) {
            return NULL;
        }
        if (!(lane == 0 ? row instanceof byte[] : lane == 1 ? row instanceof short[] : row instanceof int[])) {
            return CAST;
        }
        int[] taken;
        try {
            taken = new int[Math.min(many, 100)];
            Object part = lane == 0 ? new byte[taken.length] : lane == 1 ? new short[taken.length] : taken;
            System.arraycopy(row, from, part, 0, taken.length);
            for (int k = 0; k < taken.length; k++) {
                taken[k] = at(part, lane, k);
            }
        } catch (NegativeArraySizeException e) {
            return SIZE;
        } catch (ArrayIndexOutOfBoundsException e) {
            return INDEX;
        }
        for (int k = 0; k < taken.length; k++) {
            long far = (long) x + k;
            if (far > 119 || far < -120 || y < -120 || y > 119 || taken[k] < 0 || taken[k] >= n) {
                return BAD;
            }
        }
        for (int k = 0; k < taken.length; k++) {
            set(new Cell(x + k, y), taken[k]);
            isBroken = true;
        }
        return many;
    }

    int copy(int from, int i, int to, int j, int many) {
        if (!isSheet(from) || !isSheet(to)) {
            return BAD;
        }
        try {
            System.arraycopy(sheets[from], i, sheets[to], j, many);
            return many;
        } catch (NullPointerException e) {
            return NULL;
        } catch (ArrayStoreException e) {
            return CAST;
        } catch (IndexOutOfBoundsException e) {
            return INDEX;
        }
    }
}
