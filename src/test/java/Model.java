import java.util.ArrayDeque;
import java.util.ArrayList;
import java.util.Comparator;
import java.util.HashMap;
import java.util.LinkedHashSet;
import java.util.List;
import java.util.Map;
import java.util.NoSuchElementException;
import java.util.Set;
import java.util.TreeMap;
import java.util.TreeSet;
import java.util.function.Predicate;

/** A slow model of the game for comparison, written from the document without regard to how the program does it. */
final class Model {
    record Cell(int column, int row) implements Comparable<Cell> {
        public int compareTo(Cell other) {
            return row != other.row ? Integer.compare(row, other.row) : Integer.compare(column, other.column);
        }
    }

    /** A piece of a kind in a state with the lower left corner of its box somewhere. */
    record Body(int kind, int state, int column, int row) {
        private static final int[][][] FIRST = {
            {{0, 2}, {1, 2}, {2, 2}, {3, 2}}, {{0, 0}, {1, 0}, {0, 1}, {1, 1}}, {{0, 1}, {1, 1}, {2, 1}, {1, 2}},
            {{0, 1}, {1, 1}, {1, 2}, {2, 2}}, {{1, 1}, {2, 1}, {0, 2}, {1, 2}}, {{0, 1}, {1, 1}, {2, 1}, {0, 2}},
            {{0, 1}, {1, 1}, {2, 1}, {2, 2}},
        };

        static Body appearing(int kind) {
            return switch (kind) {
                case 0 -> new Body(0, 0, 3, 18);
                case 1 -> new Body(1, 0, 4, 20);
                default -> new Body(kind, 0, 3, 19);
            };
        }

        TreeSet<Cell> cells() {
            int n = kind == 0 ? 4 : kind == 1 ? 2 : 3;
            TreeSet<Cell> cells = new TreeSet<>();
            for (int[] cell : FIRST[kind]) {
                int c = cell[0];
                int r = cell[1];
                for (int i = 0; i < state; i++) {
                    int lower = n - 1 - c;
                    c = r;
                    r = lower;
                }
                cells.add(new Cell(column + c, row + r));
            }
            return cells;
        }

        Body moved(int columns, int rows) {
            return new Body(kind, state, column + columns, row + rows);
        }

        Body lower() {
            return moved(0, -1);
        }

        /** Returns where each kick of a rotation leads. */
        List<Body> kicked(int direction) {
            int[][] kicks = switch (kind) {
                case 0 -> new int[][] {{0, 0}, {-2, 0}, {2, 0}, {0, 2}, {0, -1}};
                case 1 -> new int[][] {{0, 0}};
                default -> new int[][] {
                    {0, 0}, {-1, 0}, {1, 0}, {0, 1}, {-1, 1}, {1, 1}, {0, -1}, {-2, 0}, {2, 0}};
            };
            List<Body> result = new ArrayList<>();
            for (int[] kick : kicks) {
                result.add(new Body(kind, (state + direction + 4) % 4, column + direction * kick[0], row + kick[1]));
            }
            return result;
        }

        int kickThatFits(int direction, Predicate<Body> fits) {
            List<Body> kicked = kicked(direction);
            for (int i = 0; i < kicked.size(); i++) {
                if (fits.test(kicked.get(i))) {
                    return i;
                }
            }
            return -1;
        }

        Body slid(int direction, Predicate<Body> fits) {
            Body body = this;
            while (fits.test(body.moved(direction, 0))) {
                body = body.moved(direction, 0);
            }
            return body;
        }
    }

    /** A placement with its figures. */
    record Placement(Body body, int rows, int holes, int total, int roughness, List<Integer> cells) {
    }

    /** What a record keeps. */
    static final class State {
        TreeMap<Cell, Integer> field = new TreeMap<>();
        long z;
        List<Integer> bag = new ArrayList<>();
        List<Integer> following = new ArrayList<>();
        Body body;
        int fallCounter;
        int restCounter;
        int resetCounter;
        int inputs;
        int lowest;
        int lastKick;
        int held = -1;
        boolean holdUsed;
        boolean over;
        int score;
        int rows;
        int combo = -1;
        int greatestCombo = -1;
        int ticks;
        boolean hardBefore;
        /** For each locked piece: kind, rows, spin, points, inputs, least inputs, whether raised. */
        List<int[]> locks = new ArrayList<>();

        State copy() {
            State s = new State();
            s.field = new TreeMap<>(field);
            s.z = z;
            s.bag = new ArrayList<>(bag);
            s.following = new ArrayList<>(following);
            s.body = body;
            s.fallCounter = fallCounter;
            s.restCounter = restCounter;
            s.resetCounter = resetCounter;
            s.inputs = inputs;
            s.lowest = lowest;
            s.lastKick = lastKick;
            s.held = held;
            s.holdUsed = holdUsed;
            s.over = over;
            s.score = score;
            s.rows = rows;
            s.combo = combo;
            s.greatestCombo = greatestCombo;
            s.ticks = ticks;
            s.hardBefore = hardBefore;
            s.locks = new ArrayList<>(locks);
            return s;
        }
    }

    private static final Map<Integer, Map<Body, Integer>> LEAST = new HashMap<>();

    State s;
    /** The spin of the latest lock, "raised" if the kick made it a full one, with the kick. */
    String latestSpin = "";
    private final ArrayDeque<State> records = new ArrayDeque<>();
    private State snapshot;
    private int[] settings = {5, 8};
    private int[] snapshotSettings;
    private String buffer = "";
    private int fault = -1;

    Model() {
        start(1);
    }

    int start(int seed) {
        if (seed < 0) {
            throw new IllegalArgumentException();
        }
        s = new State();
        s.z = seed;
        records.clear();
        appear(takeNext());
        return s.body.kind();
    }

    int set(int what, int value) {
        boolean right = what == 0 && value >= 1 && value <= 30 || what == 1 && value >= 0 && value <= 20;
        if (!right) {
            throw new IllegalArgumentException();
        }
        int previous = settings[what];
        settings[what] = value;
        return previous;
    }

    boolean isOver() {
        return s.over;
    }

    int piece(int what) {
        needPiece();
        switch (what) {
            case 0: return s.body.kind();
            case 1: return s.body.state();
            case 2: return s.body.column();
            case 3: return s.body.row();
            case 4: return s.fallCounter;
            case 5: return s.restCounter;
            case 6: return s.resetCounter;
            case 7: return s.inputs;
            case 8: return s.body.row() - fallen(s.body).row();
            default: throw new IllegalArgumentException();
        }
    }

    int next(int index) {
        if (index < 0 || index > 4) {
            throw new IndexOutOfBoundsException();
        }
        while (s.following.size() <= index) {
            s.following.add(draw());
        }
        return s.following.get(index);
    }

    int cell(int column, int row) {
        needCell(column, row);
        return s.field.getOrDefault(new Cell(column, row), -1);
    }

    boolean covers(int column, int row) {
        needPiece();
        needCell(column, row);
        return s.body.cells().contains(new Cell(column, row));
    }

    boolean shift(int direction) {
        needPiece();
        needDirection(direction);
        Body target = s.body.moved(direction, 0);
        boolean fits = fits(target);
        input(fits ? target : s.body, fits, -1);
        return fits;
    }

    int slide(int direction) {
        needPiece();
        needDirection(direction);
        Body target = s.body.slid(direction, this::fits);
        int moved = Math.abs(target.column() - s.body.column());
        input(target, moved > 0, -1);
        return moved;
    }

    int rotate(int direction) {
        needPiece();
        needDirection(direction);
        int kick = s.body.kickThatFits(direction, this::fits);
        input(kick < 0 ? s.body : s.body.kicked(direction).get(kick), kick >= 0, kick);
        return kick;
    }

    private void input(Body target, boolean succeeds, int kick) {
        s.inputs++;
        if (!succeeds) {
            return;
        }
        boolean rested = !fits(s.body.lower());
        s.body = target;
        s.lastKick = kick;
        if (rested && s.resetCounter < settings[1]) {
            s.restCounter = 0;
            s.resetCounter++;
        }
        applyLowerRow();
    }

    private void applyLowerRow() {
        if (s.body.row() < s.lowest) {
            s.lowest = s.body.row();
            s.restCounter = 0;
            s.resetCounter = 0;
        }
    }

    boolean fall() {
        needPiece();
        if (!fits(s.body.lower())) {
            return false;
        }
        s.score++;
        fallOnce();
        return true;
    }

    private void fallOnce() {
        s.body = s.body.lower();
        s.fallCounter = 0;
        s.lastKick = -1;
        applyLowerRow();
    }

    int drop() {
        needPiece();
        while (fits(s.body.lower())) {
            s.score += 2;
            fallOnce();
        }
        return lock();
    }

    int hold() {
        needPiece();
        if (s.holdUsed) {
            throw new UnsupportedOperationException();
        }
        int before = s.held;
        s.held = s.body.kind();
        s.holdUsed = true;
        appear(before < 0 ? takeNext() : before);
        return before;
    }

    int held() {
        if (s.held < 0) {
            throw new NoSuchElementException();
        }
        return s.held;
    }

    int tick(int ticks) {
        if (ticks < 1 || ticks > 200) {
            throw new IllegalArgumentException();
        }
        needPiece();
        int before = s.locks.size();
        for (int i = 0; i < ticks; i++) {
            tickOnce();
        }
        return s.locks.size() - before;
    }

    private void tickOnce() {
        if (s.over) {
            return;
        }
        s.ticks++;
        if (fits(s.body.lower())) {
            s.fallCounter++;
            if (s.fallCounter == 11 - level()) {
                fallOnce();
            }
        } else {
            s.restCounter++;
            if (s.restCounter >= settings[0]) {
                lock();
            }
        }
    }

    int garbage(int rows, int hole) {
        if (rows < 1 || rows > 4 || hole < 0 || hole > 9) {
            throw new IllegalArgumentException();
        }
        needPiece();
        TreeMap<Cell, Integer> raised = new TreeMap<>();
        for (Map.Entry<Cell, Integer> e : s.field.entrySet()) {
            Cell cell = new Cell(e.getKey().column(), e.getKey().row() + rows);
            if (cell.row() > 21) {
                throw new UnsupportedOperationException();
            }
            raised.put(cell, e.getValue());
        }
        for (int row = 0; row < rows; row++) {
            for (int column = 0; column < 10; column++) {
                if (column != hole) {
                    raised.put(new Cell(column, row), 7);
                }
            }
        }
        if (!fits(s.body, raised)) {
            throw new UnsupportedOperationException();
        }
        s.field = raised;
        return raised.size();
    }

    int figure(int what) {
        switch (what) {
            case 0: return s.field.size();
            case 1: return holes(s.field);
            case 2: return sum(heights(s.field));
            case 3: return greatest(heights(s.field));
            case 4: return roughness(heights(s.field));
            case 5: return transitions();
            case 6: return wells(heights(s.field));
            default: throw new IllegalArgumentException();
        }
    }

    int height(int column) {
        if (column < 0 || column > 9) {
            throw new IndexOutOfBoundsException();
        }
        return heights(s.field)[column];
    }

    int statistic(int what) {
        switch (what) {
            case 0: return s.score;
            case 1: return level();
            case 2: return s.rows;
            case 3: return s.locks.size();
            case 4: return s.combo;
            case 5: return s.greatestCombo;
            case 6: return faults();
            case 7: return s.locks.stream().mapToInt(lock -> lock[4]).sum();
            case 8: return s.ticks;
            default: throw new IllegalArgumentException();
        }
    }

    int clears(int rows, int spin) {
        if (rows < 0 || rows > 4 || spin < 0 || spin > 2) {
            throw new IllegalArgumentException();
        }
        return (int) s.locks.stream().filter(lock -> lock[1] == rows && lock[2] == spin).count();
    }

    int latest(int what) {
        if (s.locks.isEmpty()) {
            throw new NoSuchElementException();
        }
        if (what < 0 || what > 6) {
            throw new IllegalArgumentException();
        }
        return s.locks.get(s.locks.size() - 1)[what];
    }

    double meanFaults() {
        if (s.locks.isEmpty()) {
            throw new ArithmeticException();
        }
        return (double) faults() / (double) s.locks.size();
    }

    int leastInputs(int kind, int state, int column) {
        if (kind < 0 || kind > 6 || state < 0 || state > 3) {
            throw new IllegalArgumentException();
        }
        int least = Integer.MAX_VALUE;
        for (Map.Entry<Body, Integer> e : leastOf(kind).entrySet()) {
            if (e.getKey().state() == state && e.getKey().column() == column) {
                least = Math.min(least, e.getValue());
            }
        }
        if (least == Integer.MAX_VALUE) {
            throw new NoSuchElementException();
        }
        return least;
    }

    int placements() {
        needPiece();
        return ranked().size();
    }

    int placement(int rank, int what) {
        needPiece();
        List<Placement> ranked = ranked();
        if (rank < 0 || rank >= ranked.size()) {
            throw new NoSuchElementException();
        }
        Placement placement = ranked.get(rank);
        switch (what) {
            case 0: return placement.rows();
            case 1: return placement.holes();
            case 2: return placement.total();
            case 3: return placement.roughness();
            case 4: case 5: case 6: case 7: return placement.cells().get(what - 4);
            default: throw new IllegalArgumentException();
        }
    }

    int placeBest() {
        needPiece();
        s.body = ranked().get(0).body();
        s.lastKick = -1;
        return lock();
    }

    void append(char c) {
        if (buffer.length() == 60) {
            throw new IllegalStateException();
        }
        buffer += c;
    }

    int play() {
        String text = buffer;
        buffer = "";
        fault = faultOf(text);
        if (fault >= 0) {
            throw new IllegalArgumentException();
        }
        needPiece();
        StringBuilder commands = new StringBuilder();
        for (int i = 0; i < text.length(); i++) {
            if (Character.isDigit(text.charAt(i))) {
                commands.append(text.substring(i + 1, i + 2).repeat(text.charAt(i) - '0'));
                i++;
            } else {
                commands.append(text.charAt(i));
            }
        }
        int done = 0;
        for (char command : commands.toString().toCharArray()) {
            boolean leftOut = s.over || command == 'h' && s.holdUsed;
            if (!leftOut) {
                carryOut(command);
                done++;
            }
        }
        return done;
    }

    private void carryOut(char command) {
        switch (command) {
            case 'l' -> shift(-1);
            case 'r' -> shift(1);
            case 'L' -> slide(-1);
            case 'R' -> slide(1);
            case 'c' -> rotate(1);
            case 'a' -> rotate(-1);
            case 'd' -> fall();
            case 'x' -> drop();
            case 'h' -> hold();
            default -> tickOnce();
        }
    }

    /** The longest start of the text that a text of inputs can have tells the fault. */
    private static int faultOf(String text) {
        if (text.matches("([2-9]?[lrLRcadxht])+")) {
            return -1;
        }
        int length = text.length();
        while (!text.substring(0, length).matches("([2-9]?[lrLRcadxht])*[2-9]?")) {
            length--;
        }
        return length;
    }

    int faultPosition() {
        return fault;
    }

    int undo() {
        if (!s.over && records.size() < 2 || records.isEmpty()) {
            throw new UnsupportedOperationException();
        }
        if (!s.over) {
            records.removeLast();
        }
        s = records.getLast().copy();
        return records.size();
    }

    void save() {
        snapshot = s.copy();
        snapshotSettings = settings.clone();
    }

    void restore() {
        if (snapshot == null) {
            throw new NoSuchElementException();
        }
        s = snapshot.copy();
        settings = snapshotSettings.clone();
        records.clear();
    }

    private void needPiece() {
        if (s.over) {
            throw new IllegalStateException();
        }
    }

    private static void needCell(int column, int row) {
        if (column < 0 || column > 9 || row < 0 || row > 21) {
            throw new IndexOutOfBoundsException();
        }
    }

    private static void needDirection(int direction) {
        if (Math.abs((long) direction) != 1) {
            throw new IllegalArgumentException();
        }
    }

    boolean fits(Body body) {
        return fits(body, s.field);
    }

    private static boolean fits(Body body, Map<Cell, Integer> field) {
        for (Cell cell : body.cells()) {
            boolean inside = cell.column() >= 0 && cell.column() <= 9 && cell.row() >= 0 && cell.row() <= 21;
            if (!inside || field.containsKey(cell)) {
                return false;
            }
        }
        return true;
    }

    private Body fallen(Body body) {
        return fits(body.lower()) ? fallen(body.lower()) : body;
    }

    private int draw() {
        if (s.bag.isEmpty()) {
            s.bag.addAll(List.of(0, 1, 2, 3, 4, 5, 6));
        }
        s.z = (s.z * 1103515245 + 12345) % 2147483648L;
        return s.bag.remove((int) (s.z / 65536 % s.bag.size()));
    }

    private int takeNext() {
        next(0);
        return s.following.remove(0);
    }

    private void appear(int kind) {
        s.body = Body.appearing(kind);
        s.fallCounter = 0;
        s.restCounter = 0;
        s.resetCounter = 0;
        s.inputs = 0;
        s.lowest = s.body.row();
        s.lastKick = -1;
        if (!fits(s.body)) {
            s.over = true;
            return;
        }
        records.addLast(s.copy());
        if (records.size() > 6) {
            records.removeFirst();
        }
    }

    int resetLimit() {
        return settings[1];
    }

    int level() {
        return Math.min(10, 1 + s.rows / 10);
    }

    private int faults() {
        return s.locks.stream().mapToInt(lock -> Math.max(0, lock[4] - lock[5])).sum();
    }

    private int lock() {
        int spin = spinOf(s.body, s.lastKick);
        int level = level();
        latestSpin = (spin == 0 ? "no" : spin == 1 ? "small" : spinOf(s.body, 0) == 2 ? "full" : "raised")
                + " spin, kick " + s.lastKick;
        TreeSet<Cell> cells = s.body.cells();
        for (Cell cell : cells) {
            s.field.put(cell, s.body.kind());
        }
        int n = clear(s.field);
        boolean hard = n > 0 && (n == 4 || spin > 0);
        boolean raised = hard && s.hardBefore;
        int[][] table = {{0, 100, 300, 500, 800}, {100, 200, 400, 600}, {400, 800, 1200, 1600}};
        int points = table[spin][n];
        points = raised ? points * 3 / 2 : points;
        if (n > 0) {
            s.hardBefore = hard;
            s.combo++;
            s.greatestCombo = Math.max(s.greatestCombo, s.combo);
            points += 50 * s.combo;
            points += s.field.isEmpty() ? 1000 : 0;
        } else {
            s.combo = -1;
        }
        points *= level;
        s.score += points;
        s.rows += n;
        s.locks.add(new int[] {s.body.kind(), n, spin, points, s.inputs, leastTo(cells), raised ? 1 : 0});
        s.holdUsed = false;
        if (cells.first().row() >= 20) {
            s.over = true;
        } else {
            appear(takeNext());
        }
        return n;
    }

    int spinOf(Body body, int lastKick) {
        if (body.kind() != 2 || lastKick < 0) {
            return 0;
        }
        int[][] corners = {{0, 2}, {2, 2}, {2, 0}, {0, 0}};
        int[][][] fronts = {{{0, 2}, {2, 2}}, {{2, 2}, {2, 0}}, {{2, 0}, {0, 0}}, {{0, 0}, {0, 2}}};
        if (filled(body, corners) < 3) {
            return 0;
        }
        return filled(body, fronts[body.state()]) == 2 || lastKick >= 4 ? 2 : 1;
    }

    private int filled(Body body, int[][] corners) {
        int count = 0;
        for (int[] corner : corners) {
            Cell cell = new Cell(body.column() + corner[0], body.row() + corner[1]);
            boolean inside = cell.column() >= 0 && cell.column() <= 9 && cell.row() >= 0 && cell.row() <= 21;
            count += !inside || s.field.containsKey(cell) ? 1 : 0;
        }
        return count;
    }

    private static int clear(TreeMap<Cell, Integer> field) {
        int cleared = 0;
        for (int row = 21; row >= 0; row--) {
            int above = row;
            if (field.keySet().stream().filter(cell -> cell.row() == above).count() == 10) {
                TreeMap<Cell, Integer> rest = new TreeMap<>();
                field.forEach((cell, kind) -> {
                    if (cell.row() < above) {
                        rest.put(cell, kind);
                    } else if (cell.row() > above) {
                        rest.put(new Cell(cell.column(), cell.row() - 1), kind);
                    }
                });
                field.clear();
                field.putAll(rest);
                cleared++;
            }
        }
        return cleared;
    }

    private static int[] heights(Map<Cell, Integer> field) {
        int[] heights = new int[10];
        for (Cell cell : field.keySet()) {
            heights[cell.column()] = Math.max(heights[cell.column()], cell.row() + 1);
        }
        return heights;
    }

    private static int sum(int[] numbers) {
        int sum = 0;
        for (int number : numbers) {
            sum += number;
        }
        return sum;
    }

    private static int greatest(int[] numbers) {
        int greatest = 0;
        for (int number : numbers) {
            greatest = Math.max(greatest, number);
        }
        return greatest;
    }

    /** All cells below the tops are filled or holes. */
    private static int holes(Map<Cell, Integer> field) {
        return sum(heights(field)) - field.size();
    }

    private static int roughness(int[] heights) {
        int sum = 0;
        for (int i = 0; i < 9; i++) {
            sum += Math.abs(heights[i] - heights[i + 1]);
        }
        return sum;
    }

    private int transitions() {
        int count = 0;
        for (int row = 0; row < 22; row++) {
            StringBuilder line = new StringBuilder("#");
            for (int column = 0; column < 10; column++) {
                line.append(cell(column, row) >= 0 ? '#' : '.');
            }
            line.append('#');
            if (line.indexOf("#", 1) < 11) {
                for (int i = 1; i < line.length(); i++) {
                    count += line.charAt(i) != line.charAt(i - 1) ? 1 : 0;
                }
            }
        }
        return count;
    }

    private static int wells(int[] heights) {
        int sum = 0;
        for (int i = 0; i < 10; i++) {
            int lower = Integer.MAX_VALUE;
            if (i > 0) {
                lower = heights[i - 1];
            }
            if (i < 9) {
                lower = Math.min(lower, heights[i + 1]);
            }
            sum += lower > heights[i] ? lower - heights[i] : 0;
        }
        return sum;
    }

    private static Map<Body, Integer> leastOf(int kind) {
        return LEAST.computeIfAbsent(kind, Model::searchLeast);
    }

    private static Map<Body, Integer> searchLeast(int kind) {
        Predicate<Body> open =
                body -> body.cells().stream().allMatch(cell -> cell.column() >= 0 && cell.column() <= 9);
        Map<Body, Integer> least = new HashMap<>();
        ArrayDeque<Body> queue = new ArrayDeque<>();
        least.put(Body.appearing(kind), 0);
        queue.add(Body.appearing(kind));
        while (!queue.isEmpty()) {
            Body body = queue.remove();
            List<Body> reached = new ArrayList<>();
            for (int direction = -1; direction <= 1; direction += 2) {
                reached.add(body.slid(direction, open));
                Body shifted = body.moved(direction, 0);
                if (open.test(shifted)) {
                    reached.add(shifted);
                }
                int kick = body.kickThatFits(direction, open);
                if (kick >= 0) {
                    reached.add(body.kicked(direction).get(kick));
                }
            }
            for (Body next : reached) {
                if (!least.containsKey(next)) {
                    least.put(next, least.get(body) + 1);
                    queue.add(next);
                }
            }
        }
        return least;
    }

    private int leastTo(TreeSet<Cell> cells) {
        int least = Integer.MAX_VALUE;
        for (Map.Entry<Body, Integer> e : leastOf(s.body.kind()).entrySet()) {
            if (lowered(e.getKey().cells()).equals(lowered(cells))) {
                least = Math.min(least, e.getValue());
            }
        }
        return least;
    }

    private static TreeSet<Cell> lowered(TreeSet<Cell> cells) {
        TreeSet<Cell> result = new TreeSet<>();
        for (Cell cell : cells) {
            result.add(new Cell(cell.column(), cell.row() - cells.first().row()));
        }
        return result;
    }

    /** Returns all places that the present piece can reach. */
    Set<Body> reachable() {
        Set<Body> seen = new LinkedHashSet<>();
        ArrayDeque<Body> queue = new ArrayDeque<>();
        seen.add(s.body);
        queue.add(s.body);
        while (!queue.isEmpty()) {
            Body body = queue.remove();
            List<Body> tried = new ArrayList<>(List.of(body.lower(), body.moved(-1, 0), body.moved(1, 0)));
            for (int direction = -1; direction <= 1; direction += 2) {
                int kick = body.kickThatFits(direction, this::fits);
                if (kick >= 0) {
                    tried.add(body.kicked(direction).get(kick));
                }
            }
            for (Body next : tried) {
                if (fits(next) && seen.add(next)) {
                    queue.add(next);
                }
            }
        }
        return seen;
    }

    List<Placement> ranked() {
        Map<List<Integer>, Placement> byCells = new HashMap<>();
        for (Body body : reachable()) {
            if (!fits(body.lower())) {
                List<Integer> cells = new ArrayList<>();
                for (Cell cell : body.cells()) {
                    cells.add(10 * cell.row() + cell.column());
                }
                byCells.put(cells, evaluated(body, cells));
            }
        }
        List<Placement> ranked = new ArrayList<>(byCells.values());
        ranked.sort(Comparator.comparingInt((Placement p) -> -p.rows()).thenComparingInt(Placement::holes)
                .thenComparingInt(Placement::total).thenComparingInt(Placement::roughness)
                .thenComparingInt(p -> p.cells().get(0)).thenComparingInt(p -> p.cells().get(1))
                .thenComparingInt(p -> p.cells().get(2)).thenComparingInt(p -> p.cells().get(3)));
        return ranked;
    }

    private Placement evaluated(Body body, List<Integer> cells) {
        TreeMap<Cell, Integer> field = new TreeMap<>(s.field);
        for (Cell cell : body.cells()) {
            field.put(cell, body.kind());
        }
        int rows = clear(field);
        int[] heights = heights(field);
        return new Placement(body, rows, holes(field), sum(heights), roughness(heights), cells);
    }
}
