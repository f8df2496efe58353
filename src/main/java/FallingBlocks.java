import java.util.Arrays;
import java.util.NoSuchElementException;

/** A falling-block game; ../shared/DOC.md tells what each method promises. */
public final class FallingBlocks {
    private static final int COLUMNS = 10;
    private static final int ROWS = 22;
    private static final int KINDS = 7;
    private static final int STATES = 4;
    /** The number of cells of a piece. */
    private static final int SIZE = 4;
    private static final int EMPTY = -1;
    private static final int GARBAGE = 7;
    private static final int NONE = -1;
    private static final int LONG_KIND = 0;
    private static final int SQUARE_KIND = 1;
    private static final int SPIN_KIND = 2;
    private static final int PREVIEW = 5;
    private static final int BUFFER_LIMIT = 60;

    /**
     * The cells of each kind (a line) in each state (four numbers), as 10 times the row plus the column from the lower
     * left corner of the box, in ascending order: added to 10 times the row plus the column of the box, they are the
     * cells of the field.
     */
    private static final int[] CELLS = {
        20, 21, 22, 23,   2, 12, 22, 32,  10, 11, 12, 13,   1, 11, 21, 31,
         0,  1, 10, 11,   0,  1, 10, 11,   0,  1, 10, 11,   0,  1, 10, 11,
        10, 11, 12, 21,   1, 11, 12, 21,   1, 10, 11, 12,   1, 10, 11, 21,
        10, 11, 21, 22,   2, 11, 12, 21,   0,  1, 11, 12,   1, 10, 11, 20,
        11, 12, 20, 21,   1, 11, 12, 22,   1,  2, 10, 11,   0, 10, 11, 21,
        10, 11, 12, 20,   1, 11, 21, 22,   2, 10, 11, 12,   0,  1, 11, 21,
        10, 11, 12, 22,   1,  2, 11, 21,   0, 10, 11, 12,   1, 11, 20, 21,
    };

    /** The kicks of a rotation by 1, column and row; the long kind has its own, the square kind the first alone. */
    private static final int[] KICKS = {0, 0, -1, 0, 1, 0, 0, 1, -1, 1, 1, 1, 0, -1, -2, 0, 2, 0};
    private static final int[] LONG_KICKS = {0, 0, -2, 0, 2, 0, 0, 2, 0, -1};

    private final Engine engine = new Engine();
    private final Game game = engine.game;
    private final InputText text = new InputText();

    public FallingBlocks() {
        engine.begin(1);
    }

    public int start(int seed) throws IllegalArgumentException {
        if (seed < 0) {
            throw new IllegalArgumentException("the seed is negative");
        }
        engine.begin(seed);
        return game.present.at.kind;
    }

    public int set(int what, int value) throws IllegalArgumentException {
        needRange(what, 0, 1);
        if (what == 0) {
            needRange(value, 1, 30);
            int previous = game.lockDelay;
            game.lockDelay = value;
            return previous;
        }
        needRange(value, 0, 20);
        int previous = game.resetLimit;
        game.resetLimit = value;
        return previous;
    }

    public boolean isOver() {
        return game.over;
    }

    public int piece(int what) throws IllegalStateException, IllegalArgumentException {
        needPresentPiece();
        needRange(what, 0, 8);
        Piece present = game.present;
        switch (what) {
            case 0: return present.at.kind;
            case 1: return present.at.state;
            case 2: return present.at.column;
            case 3: return present.at.row;
            case 4: return present.fallCounter;
            case 5: return present.restCounter;
            case 6: return present.resetCounter;
            case 7: return present.inputs;
            default: return engine.rowsToFall();
        }
    }

    public int next(int index) throws IndexOutOfBoundsException {
        if (index < 0 || index >= PREVIEW) {
            throw new IndexOutOfBoundsException("the preview has the indices 0 to 4");
        }
        return game.bags.preview[index];
    }

    public int cell(int column, int row) throws IndexOutOfBoundsException {
        needCell(column, row);
        return game.field.kinds[row * COLUMNS + column];
    }

    public boolean covers(int column, int row) throws IllegalStateException, IndexOutOfBoundsException {
        needPresentPiece();
        needCell(column, row);
        return game.present.at.has(row * COLUMNS + column);
    }

    public boolean shift(int direction) throws IllegalStateException, IllegalArgumentException {
        needPresentPiece();
        needDirection(direction);
        return engine.shiftPiece(direction);
    }

    public int slide(int direction) throws IllegalStateException, IllegalArgumentException {
        needPresentPiece();
        needDirection(direction);
        return engine.slidePiece(direction);
    }

    public int rotate(int direction) throws IllegalStateException, IllegalArgumentException {
        needPresentPiece();
        needDirection(direction);
        return engine.turnPiece(direction);
    }

    public boolean fall() throws IllegalStateException {
        needPresentPiece();
        return engine.sinkPiece();
    }

    public int drop() throws IllegalStateException {
        needPresentPiece();
        return engine.dropPiece();
    }

    public int hold() throws IllegalStateException, UnsupportedOperationException {
        needPresentPiece();
        if (game.holdUsed) {
            throw new UnsupportedOperationException("the hold was used for this piece");
        }
        return engine.swapWithHold();
    }

    public int held() throws NoSuchElementException {
        if (game.heldKind == NONE) {
            throw new NoSuchElementException("no piece is on hold");
        }
        return game.heldKind;
    }

    public int tick(int ticks) throws IllegalArgumentException, IllegalStateException {
        needRange(ticks, 1, 200);
        needPresentPiece();
        int before = game.score.pieces;
        for (int i = 0; i < ticks && !game.over; i++) {
            engine.passTick();
        }
        return game.score.pieces - before;
    }

    public int garbage(int rows, int hole)
            throws IllegalArgumentException, IllegalStateException, UnsupportedOperationException {
        needRange(rows, 1, 4);
        needRange(hole, 0, COLUMNS - 1);
        needPresentPiece();
        if (!engine.addGarbage(rows, hole)) {
            throw new UnsupportedOperationException("there is no room for the garbage");
        }
        return game.field.countFilled();
    }

    public int figure(int what) throws IllegalArgumentException {
        needRange(what, 0, 6);
        Field field = game.field;
        switch (what) {
            case 0: return field.countFilled();
            case 1: return field.countHoles();
            case 2: return field.totalHeight();
            case 3: return field.greatestHeight();
            case 4: return field.roughness();
            case 5: return field.countRowTransitions();
            default: return field.wellDepth();
        }
    }

    public int height(int column) throws IndexOutOfBoundsException {
        if (column < 0 || column >= COLUMNS) {
            throw new IndexOutOfBoundsException("there is no such column");
        }
        return game.field.heightOf(column);
    }

    public int statistic(int what) throws IllegalArgumentException {
        needRange(what, 0, 8);
        Score score = game.score;
        switch (what) {
            case 0: return score.points;
            case 1: return score.level();
            case 2: return score.rows;
            case 3: return score.pieces;
            case 4: return score.combo;
            case 5: return score.greatestCombo;
            case 6: return score.faults;
            case 7: return score.inputs;
            default: return score.ticks;
        }
    }

    public int clears(int rows, int spin) throws IllegalArgumentException {
        needRange(rows, 0, 4);
        needRange(spin, 0, 2);
        return game.score.lockCounts[Score.sortOf(rows, spin)];
    }

    public int latest(int what) throws NoSuchElementException, IllegalArgumentException {
        if (game.score.pieces == 0) {
            throw new NoSuchElementException("no piece was locked in this game");
        }
        needRange(what, 0, 6);
        return game.score.latestLock[what];
    }

    public double meanFaults() throws ArithmeticException {
        if (game.score.pieces == 0) {
            throw new ArithmeticException("no piece was locked");
        }
        return (double) game.score.faults / (double) game.score.pieces;
    }

    public int leastInputs(int kind, int state, int column) throws IllegalArgumentException, NoSuchElementException {
        needRange(kind, 0, KINDS - 1);
        needRange(state, 0, STATES - 1);
        int least = engine.finesse.leastTo(kind, state, column);
        if (least == NONE) {
            throw new NoSuchElementException("a cell would be outside of the columns");
        }
        return least;
    }

    public int placements() throws IllegalStateException {
        needPresentPiece();
        engine.search.prepare(game);
        return engine.search.found;
    }

    public int placement(int rank, int what)
            throws IllegalStateException, NoSuchElementException, IllegalArgumentException {
        needPresentPiece();
        engine.search.prepare(game);
        if (rank < 0 || rank >= engine.search.found) {
            throw new NoSuchElementException("there is no such rank");
        }
        needRange(what, 0, 7);
        return engine.search.numberAbout(rank, what);
    }

    public int placeBest() throws IllegalStateException {
        needPresentPiece();
        engine.search.prepare(game);
        return engine.lockInBestPlacement();
    }

    public void append(char c) throws IllegalStateException {
        if (!text.add(c)) {
            throw new IllegalStateException("the buffer is full");
        }
    }

    public int play() throws IllegalArgumentException, IllegalStateException {
        if (!text.finish()) {
            throw new IllegalArgumentException("the text is not a text of inputs");
        }
        needPresentPiece();
        int done = 0;
        for (int i = 0; i < text.size && i < BUFFER_LIMIT; i++) {
            int times = text.timesAt(i);
            for (int j = 0; j < times && !game.over; j++) {
                if (carryOut(text.signs[i])) {
                    done++;
                }
            }
        }
        return done;
    }

    public int faultPosition() {
        return text.fault;
    }

    public int undo() throws UnsupportedOperationException {
        int kept = engine.memory.goBack(game);
        if (kept == 0) {
            throw new UnsupportedOperationException("there is no record to go back to");
        }
        return kept;
    }

    public void save() {
        engine.memory.keepSnapshot(game);
    }

    public void restore() throws NoSuchElementException {
        if (!engine.memory.goToSnapshot(game)) {
            throw new NoSuchElementException("there is no snapshot");
        }
    }

    private void needPresentPiece() throws IllegalStateException {
        if (game.over) {
            throw new IllegalStateException("the game is over");
        }
    }

    private void needRange(int value, int least, int greatest) throws IllegalArgumentException {
        if (value < least || value > greatest) {
            throw new IllegalArgumentException("an argument is out of range");
        }
    }

    private void needDirection(int direction) throws IllegalArgumentException {
        if (direction != -1 && direction != 1) {
            throw new IllegalArgumentException("a direction is -1 or 1");
        }
    }

    private void needCell(int column, int row) throws IndexOutOfBoundsException {
        if (column < 0 || column >= COLUMNS || row < 0 || row >= ROWS) {
            throw new IndexOutOfBoundsException("there is no such cell");
        }
    }

    /** Returns whether the command was carried out; a hold that cannot be used is not. */
    private boolean carryOut(char command) {
        switch (command) {
            case 'l': engine.shiftPiece(-1); break;
            case 'r': engine.shiftPiece(1); break;
            case 'L': engine.slidePiece(-1); break;
            case 'R': engine.slidePiece(1); break;
            case 'c': engine.turnPiece(1); break;
            case 'a': engine.turnPiece(-1); break;
            case 'd': engine.sinkPiece(); break;
            case 'x': engine.dropPiece(); break;
            case 't': engine.passTick(); break;
            default:
                if (game.holdUsed) {
                    return false;
                }
                engine.swapWithHold();
                break;
        }
        return true;
    }

    /** The filled cells, without the present piece. */
    private static final class Field {
        /** The kind of each cell at 10 times its row plus its column. */
        final int[] kinds = new int[COLUMNS * ROWS];

        Field() {
            makeEmpty();
        }

        void makeEmpty() {
            Arrays.fill(kinds, EMPTY);
        }

        void copyFrom(Field other) {
            System.arraycopy(other.kinds, 0, kinds, 0, kinds.length);
        }

        boolean isSame(Field other) {
            for (int i = 0; i < COLUMNS * ROWS; i++) {
                if (kinds[i] != other.kinds[i]) {
                    return false;
                }
            }
            return true;
        }

        /** Cells outside of the field count as filled. */
        boolean isFilled(int column, int row) {
            boolean isOutside = column < 0 || column >= COLUMNS || row < 0 || row >= ROWS;
            return isOutside || kinds[row * COLUMNS + column] != EMPTY;
        }

        void fillWith(Position at) {
            for (int i = 0; i < SIZE; i++) {
                int index = at.cellAt(i);
                if (index >= 0 && index < kinds.length) {
                    kinds[index] = at.kind;
                }
            }
        }

        /** Returns how many rows were cleared. */
        int clearFullRows() {
            int kept = 0;
            for (int row = 0; row < ROWS; row++) {
                if (countFilledInRow(row) < COLUMNS) {
                    System.arraycopy(kinds, row * COLUMNS, kinds, kept * COLUMNS, COLUMNS);
                    kept++;
                }
            }
            for (int i = kept * COLUMNS; i < COLUMNS * ROWS; i++) {
                kinds[i] = EMPTY;
            }
            return ROWS - kept;
        }

        void raise(int rows, int hole) {
            for (int i = COLUMNS * ROWS - 1; i >= 0; i--) {
                int below = i - rows * COLUMNS;
                if (below >= 0 && below < COLUMNS * ROWS) {
                    kinds[i] = kinds[below];
                } else {
                    kinds[i] = i % COLUMNS == hole ? EMPTY : GARBAGE;
                }
            }
        }

        int countFilledInRow(int row) {
            int count = 0;
            for (int column = 0; column < COLUMNS; column++) {
                if (isFilled(column, row)) {
                    count++;
                }
            }
            return count;
        }

        int countFilled() {
            int count = 0;
            for (int row = 0; row < ROWS; row++) {
                count += countFilledInRow(row);
            }
            return count;
        }

        int countHoles() {
            int count = 0;
            for (int column = 0; column < COLUMNS; column++) {
                for (int row = heightOf(column) - 1; row >= 0; row--) {
                    if (!isFilled(column, row)) {
                        count++;
                    }
                }
            }
            return count;
        }

        int heightOf(int column) {
            for (int row = ROWS - 1; row >= 0; row--) {
                if (isFilled(column, row)) {
                    return row + 1;
                }
            }
            return 0;
        }

        int totalHeight() {
            int sum = 0;
            for (int column = 0; column < COLUMNS; column++) {
                sum += heightOf(column);
            }
            return sum;
        }

        int greatestHeight() {
            int greatest = 0;
            for (int column = 0; column < COLUMNS; column++) {
                greatest = Math.max(greatest, heightOf(column));
            }
            return greatest;
        }

        int roughness() {
            int sum = 0;
            for (int column = 1; column < COLUMNS; column++) {
                sum += Math.abs(heightOf(column) - heightOf(column - 1));
            }
            return sum;
        }

        int countRowTransitions() {
            int count = 0;
            for (int row = 0; row < ROWS; row++) {
                if (countFilledInRow(row) > 0) {
                    count += countTransitionsIn(row);
                }
            }
            return count;
        }

        /** The walls, which are outside of the field, count as filled. */
        private int countTransitionsIn(int row) {
            int count = 0;
            for (int column = 0; column <= COLUMNS; column++) {
                if (isFilled(column - 1, row) != isFilled(column, row)) {
                    count++;
                }
            }
            return count;
        }

        int wellDepth() {
            int sum = 0;
            for (int column = 0; column < COLUMNS; column++) {
                int left = column == 0 ? ROWS : heightOf(column - 1);
                int right = column == COLUMNS - 1 ? ROWS : heightOf(column + 1);
                sum += Math.max(0, Math.min(left, right) - heightOf(column));
            }
            return sum;
        }
    }

    /** Where a piece of some kind stands. */
    private static final class Position {
        int kind;
        int state;
        int column;
        int row;

        void appear(int newKind) {
            kind = newKind;
            state = 0;
            column = newKind == SQUARE_KIND ? 4 : 3;
            row = newKind == SQUARE_KIND ? 20 : newKind == LONG_KIND ? 18 : 19;
        }

        void copyFrom(Position other) {
            kind = other.kind;
            state = other.state;
            column = other.column;
            row = other.row;
        }

        boolean isSame(Position other) {
            return kind == other.kind && state == other.state && column == other.column && row == other.row;
        }

        /** Returns a number of CELLS, or 0 where there is none. */
        static int cellOf(int kind, int state, int index) {
            int place = (kind * STATES + state) * SIZE + index;
            return place >= 0 && place < CELLS.length ? CELLS[place] : 0;
        }

        /** Returns 10 times the row plus the column of a cell, where the cells are in ascending order of it. */
        int cellAt(int index) {
            return row * COLUMNS + column + cellOf(kind, state, index);
        }

        boolean has(int cell) {
            for (int i = 0; i < SIZE; i++) {
                if (cellAt(i) == cell) {
                    return true;
                }
            }
            return false;
        }

        boolean isAllAtOrAbove(int lowestRow) {
            return cellAt(0) >= lowestRow * COLUMNS;
        }

        boolean fits(Field field) {
            for (int i = 0; i < SIZE; i++) {
                int cell = cellOf(kind, state, i);
                if (field.isFilled(column + cell % COLUMNS, row + cell / COLUMNS)) {
                    return false;
                }
            }
            return true;
        }

        /** Moves if it fits there; returns whether it did. */
        boolean moveBy(int columns, int rows, Field field) {
            column += columns;
            row += rows;
            if (fits(field)) {
                return true;
            }
            column -= columns;
            row -= rows;
            return false;
        }

        int slideBy(int direction, Field field) {
            for (int moved = 0; moved < COLUMNS; moved++) {
                column += direction;
                if (!fits(field)) {
                    column -= direction;
                    return moved;
                }
            }
            return COLUMNS;
        }

        /** Returns the number of the kick with which it turned, or -1 if it did not. */
        int turnBy(int direction, Field field) {
            int[] kicks = kind == LONG_KIND ? LONG_KICKS : KICKS;
            int count = kind == SQUARE_KIND ? 1 : kicks.length / 2;
            int oldColumn = column;
            int oldRow = row;
            state = (state + direction) & 3;
            for (int kick = 0; kick < count; kick++) {
                column = oldColumn + direction * kicks[2 * kick];
                row = oldRow + kicks[2 * kick + 1];
                if (fits(field)) {
                    return kick;
                }
            }
            state = (state - direction) & 3;
            column = oldColumn;
            row = oldRow;
            return NONE;
        }

        boolean canFall(Field field) {
            row--;
            boolean can = fits(field);
            row++;
            return can;
        }
    }

    /** The present piece. */
    private static final class Piece {
        final Position at = new Position();
        int fallCounter;
        int restCounter;
        int resetCounter;
        int inputs;
        int lowestRow;
        /** The kick of the last move if that was a rotation, or -1. */
        int lastKick;

        void appear(int kind) {
            at.appear(kind);
            fallCounter = 0;
            restCounter = 0;
            resetCounter = 0;
            inputs = 0;
            lowestRow = at.row;
            lastKick = NONE;
        }

        void copyFrom(Piece other) {
            at.copyFrom(other.at);
            fallCounter = other.fallCounter;
            restCounter = other.restCounter;
            resetCounter = other.resetCounter;
            inputs = other.inputs;
            lowestRow = other.lowestRow;
            lastKick = other.lastKick;
        }

        /** Applies the rules on resets and on lower rows after an input that moved it; only rotations have a kick. */
        void noteInput(int kick, boolean couldFallBefore, int resetLimit) {
            lastKick = kick;
            if (!couldFallBefore && resetCounter < resetLimit) {
                restCounter = 0;
                resetCounter++;
            }
            noteRow();
        }

        void noteFall() {
            fallCounter = 0;
            lastKick = NONE;
            noteRow();
        }

        private void noteRow() {
            if (at.row < lowestRow) {
                lowestRow = at.row;
                restCounter = 0;
                resetCounter = 0;
            }
        }
    }

    /** The bags and the preview, which is drawn ahead. */
    private static final class Bags {
        private static final int FULL = (1 << KINDS) - 1;
        final int[] preview = new int[PREVIEW];
        private long number;
        /** The kinds in the bag, a bit each. */
        private int bag;

        void begin(int seed) {
            number = seed;
            bag = 0;
            for (int i = 0; i < PREVIEW; i++) {
                preview[i] = draw();
            }
        }

        void copyFrom(Bags other) {
            System.arraycopy(other.preview, 0, preview, 0, PREVIEW);
            number = other.number;
            bag = other.bag;
        }

        int take() {
            int kind = preview[0];
            for (int i = 1; i < PREVIEW; i++) {
                preview[i - 1] = preview[i];
            }
            preview[PREVIEW - 1] = draw();
            return kind;
        }

        private int draw() {
            if (bag == 0) {
                bag = FULL;
            }
            number = (number * 1103515245L + 12345L) & 2147483647L;
            int index = Math.floorMod((int) (number / 65536L), Integer.bitCount(bag));
            for (int kind = 0; kind < KINDS; kind++) {
                boolean isIn = ((bag >> kind) & 1) == 1;
                if (isIn && index == 0) {
                    bag -= 1 << kind;
                    return kind;
                }
                if (isIn) {
                    index--;
                }
            }
            return 0;
        }
    }

    /** The score and the statistics of a game. */
    private static final class Score {
        /** The points of a lock at 5 times its spin plus the number of rows cleared. */
        private static final int[] POINTS = {0, 100, 300, 500, 800, 100, 200, 400, 600, 0, 400, 800, 1200, 1600, 0};
        int points;
        int rows;
        int pieces;
        int combo;
        int greatestCombo;
        int faults;
        int inputs;
        int ticks;
        /** Whether the latest clear was hard. */
        boolean wasHard;
        /** The numbers of locks at 5 times their spin plus their number of rows cleared. */
        final int[] lockCounts = new int[15];
        final int[] latestLock = new int[7];

        /** Returns 5 times the spin plus the number of rows. */
        static int sortOf(int rows, int spin) {
            return 5 * Math.max(0, Math.min(spin, 2)) + Math.max(0, Math.min(rows, 4));
        }

        void begin() {
            points = 0;
            rows = 0;
            pieces = 0;
            combo = -1;
            greatestCombo = -1;
            faults = 0;
            inputs = 0;
            ticks = 0;
            wasHard = false;
            Arrays.fill(lockCounts, 0);
        }

        void copyFrom(Score other) {
            points = other.points;
            rows = other.rows;
            pieces = other.pieces;
            combo = other.combo;
            greatestCombo = other.greatestCombo;
            faults = other.faults;
            inputs = other.inputs;
            ticks = other.ticks;
            wasHard = other.wasHard;
            System.arraycopy(other.lockCounts, 0, lockCounts, 0, lockCounts.length);
            System.arraycopy(other.latestLock, 0, latestLock, 0, latestLock.length);
        }

        int level() {
            return Math.min(10, 1 + rows / 10);
        }

        void noteLock(int kind, int cleared, int spin, boolean emptied) {
            boolean hard = cleared == 4 || (cleared > 0 && spin > 0);
            boolean raised = hard && wasHard;
            int won = POINTS[sortOf(cleared, spin)];
            if (raised) {
                won = won * 3 / 2;
            }
            combo = cleared > 0 ? combo + 1 : -1;
            greatestCombo = Math.max(greatestCombo, combo);
            if (cleared > 0) {
                won += 50 * combo + (emptied ? 1000 : 0);
                wasHard = hard;
            }
            won *= level();
            points += won;
            rows += cleared;
            pieces++;
            lockCounts[sortOf(cleared, spin)]++;
            latestLock[0] = kind;
            latestLock[1] = cleared;
            latestLock[2] = spin;
            latestLock[3] = won;
            latestLock[6] = raised ? 1 : 0;
        }

        void noteFinesse(int used, int least) {
            inputs += used;
            faults += Math.max(0, used - least);
            latestLock[4] = used;
            latestLock[5] = least;
        }
    }

    /** All that a record or a snapshot holds. */
    private static final class Game {
        final Field field = new Field();
        final Piece present = new Piece();
        final Bags bags = new Bags();
        final Score score = new Score();
        int heldKind = NONE;
        boolean holdUsed;
        boolean over;
        int lockDelay = 5;
        int resetLimit = 8;

        /** Leaves the lock delay and the reset limit, which do not belong to a record. */
        void copyFrom(Game other) {
            field.copyFrom(other.field);
            present.copyFrom(other.present);
            bags.copyFrom(other.bags);
            score.copyFrom(other.score);
            heldKind = other.heldKind;
            holdUsed = other.holdUsed;
            over = other.over;
        }

        void copySettingsFrom(Game other) {
            lockDelay = other.lockDelay;
            resetLimit = other.resetLimit;
        }
    }

    /** The records for undo, in a ring, and the snapshot. */
    private static final class Memory {
        private static final int LIMIT = 6;
        private final Game[] records = new Game[LIMIT];
        private int newest;
        private int kept;
        private final Game snapshot = new Game();
        private boolean hasSnapshot;

        Memory() {
            for (int i = 0; i < LIMIT; i++) {
                records[i] = new Game();
            }
        }

        void forgetRecords() {
            kept = 0;
        }

        /** Returns the record to be written now. */
        Game nextRecord() {
            newest = Math.floorMod(newest + 1, LIMIT);
            kept = Math.min(kept + 1, LIMIT);
            return records[newest];
        }

        /** Returns the number of records kept then, or 0 if there is none to go back to; then nothing changes. */
        int goBack(Game game) {
            int forgotten = game.over ? 0 : 1;
            if (kept <= forgotten) {
                return 0;
            }
            kept -= forgotten;
            newest = Math.floorMod(newest - forgotten, LIMIT);
            game.copyFrom(records[newest]);
            return kept;
        }

        void keepSnapshot(Game game) {
            snapshot.copyFrom(game);
            snapshot.copySettingsFrom(game);
            hasSnapshot = true;
        }

        /** Returns whether there is a snapshot. */
        boolean goToSnapshot(Game game) {
            if (hasSnapshot) {
                game.copyFrom(snapshot);
                game.copySettingsFrom(snapshot);
                forgetRecords();
            }
            return hasSnapshot;
        }
    }

    /** The least inputs to each state and column. */
    private static final class Finesse {
        private static final int WIDTH = 16;
        private static final int OFFSET = 3;
        /** A row from which no kick of a search gets to the floor or the ceiling, which the rule leaves out. */
        private static final int MIDDLE = 9;
        private final int[] least = new int[KINDS * STATES * WIDTH];
        private final int[] queue = new int[STATES * WIDTH];
        private final Field open = new Field();
        private final Position at = new Position();
        private int reached;

        Finesse() {
            Arrays.fill(least, NONE);
            for (int kind = 0; kind < KINDS; kind++) {
                explore(kind);
            }
        }

        /** Returns -1 if a cell would be outside of the columns. */
        int leastTo(int kind, int state, int column) {
            int index = indexOf(kind, state, column);
            return index == NONE ? NONE : least[index];
        }

        /** Returns the index of the least inputs, or -1 if there is none. */
        private static int indexOf(int kind, int state, int column) {
            boolean isKind = kind >= 0 && kind < KINDS;
            boolean isState = state >= 0 && state < STATES;
            boolean isColumn = column >= -OFFSET && column < WIDTH - OFFSET;
            return isKind && isState && isColumn ? (kind * STATES + state) * WIDTH + column + OFFSET : NONE;
        }

        /** Returns the least inputs by any state with the same cells but for a number of rows. */
        int leastToCellsOf(Position locked) {
            int offset = firstColumn(locked.kind, locked.state);
            int best = leastTo(locked.kind, locked.state, locked.column);
            for (int state = 0; state < STATES; state++) {
                if (isSameShape(locked.kind, locked.state, state)) {
                    int column = locked.column + offset - firstColumn(locked.kind, state);
                    int inputs = leastTo(locked.kind, state, column);
                    if (inputs != NONE && inputs < best) {
                        best = inputs;
                    }
                }
            }
            return best;
        }

        private static int firstColumn(int kind, int state) {
            return Position.cellOf(kind, state, 0) % COLUMNS;
        }

        /** The cells are in one order in all states, so the same shape has them all at the same distance. */
        private static boolean isSameShape(int kind, int state, int other) {
            int first = Position.cellOf(kind, state, 0);
            int otherFirst = Position.cellOf(kind, other, 0);
            for (int i = 1; i < SIZE; i++) {
                if (Position.cellOf(kind, state, i) - first != Position.cellOf(kind, other, i) - otherFirst) {
                    return false;
                }
            }
            return true;
        }

        private void explore(int kind) {
            reached = 0;
            at.appear(kind);
            reach(0);
            for (int i = 0; i < reached && i < STATES * WIDTH; i++) {
                int from = queue[i];
                goTo(from);
                int inputs = leastTo(kind, at.state, at.column) + 1;
                for (int direction = -1; direction <= 1; direction += 2) {
                    goTo(from);
                    at.moveBy(direction, 0, open);
                    reach(inputs);
                    goTo(from);
                    at.slideBy(direction, open);
                    reach(inputs);
                    goTo(from);
                    at.turnBy(direction, open);
                    reach(inputs);
                }
            }
        }

        private void goTo(int spot) {
            at.state = spot / WIDTH;
            at.column = spot % WIDTH - OFFSET;
            at.row = MIDDLE;
        }

        /** An input that failed has left the piece where it was, which was reached before. */
        private void reach(int inputs) {
            int index = indexOf(at.kind, at.state, at.column);
            boolean isNew = index != NONE && least[index] == NONE;
            if (isNew && reached >= 0 && reached < STATES * WIDTH) {
                least[index] = inputs;
                queue[reached] = at.state * WIDTH + at.column + OFFSET;
                reached++;
            }
        }
    }

    /** The placements of a piece, ranked; what was found is kept as long as the piece and the field are the same. */
    private static final class Search {
        /** Spots are states, columns and rows as one number. */
        private static final int SPOTS = 2048;
        private static final int OFFSET = 3;
        /** In a state and a column, a piece rests at every second row at most, which makes 440 placements at most. */
        private static final int LIMIT = 512;
        int found;
        private boolean known;
        private final Field field = new Field();
        private final Field after = new Field();
        private final Position from = new Position();
        private final Position at = new Position();
        private final int[] seen = new int[SPOTS];
        private final int[] queue = new int[SPOTS];
        private int reached;
        /** All that placements are ranked by, and all that is told about them, in a number each, ascending. */
        private final long[] keys = new long[LIMIT];
        /** The spot of the first placement. */
        private int best;

        void prepare(Game game) {
            Position start = game.present.at;
            if (known && from.isSame(start) && field.isSame(game.field)) {
                return;
            }
            known = true;
            from.copyFrom(start);
            field.copyFrom(game.field);
            explore();
        }

        int numberAbout(int rank, int what) {
            if (rank < 0 || rank >= LIMIT) {
                return NONE;
            }
            int part = (int) (keys[rank] >> (8 * (7 - what))) & 255;
            return what == 0 ? 4 - part : part;
        }

        /** Moves a piece of the kind searched for to its best placement; there is one at least, by falls alone. */
        void moveToBest(Position piece) {
            if (found > 0) {
                goTo(best, piece);
            }
        }

        private void explore() {
            Arrays.fill(seen, 0);
            reached = 0;
            found = 0;
            at.copyFrom(from);
            reach();
            for (int i = 0; i < reached && i < SPOTS; i++) {
                goTo(queue[i], at);
                if (at.moveBy(0, -1, field)) {
                    reach();
                } else {
                    insert(keyOfPlacement(), queue[i]);
                }
                for (int direction = -1; direction <= 1; direction += 2) {
                    goTo(queue[i], at);
                    at.moveBy(direction, 0, field);
                    reach();
                    goTo(queue[i], at);
                    at.turnBy(direction, field);
                    reach();
                }
            }
        }

        /** An input that failed has left the piece where it was, which was reached before. */
        private void reach() {
            int spot = (at.state << 9) + ((at.column + OFFSET) << 5) + at.row + OFFSET;
            boolean isNew = spot >= 0 && spot < SPOTS && seen[spot] == 0;
            if (isNew && reached >= 0 && reached < SPOTS) {
                seen[spot] = 1;
                queue[reached] = spot;
                reached++;
            }
        }

        private static void goTo(int spot, Position piece) {
            piece.state = spot >> 9;
            piece.column = ((spot >> 5) & 15) - OFFSET;
            piece.row = (spot & 31) - OFFSET;
        }

        /** The lesser the key, the better the placement; no part of it is greater than 255. */
        private long keyOfPlacement() {
            after.copyFrom(field);
            after.fillWith(at);
            long key = 4 - after.clearFullRows();
            key = (key << 8) + after.countHoles();
            key = (key << 8) + after.totalHeight();
            key = (key << 8) + after.roughness();
            for (int i = 0; i < SIZE; i++) {
                key = (key << 8) + at.cellAt(i);
            }
            return key;
        }

        /** Placements with the same cells have the same key and count once. */
        private void insert(long key, int spot) {
            if (found < 0 || found >= LIMIT) {
                return;
            }
            int rank = found;
            while (rank > 0 && keys[rank - 1] > key) {
                rank--;
            }
            if (rank > 0 && keys[rank - 1] == key) {
                return;
            }
            for (int i = found; i > rank; i--) {
                keys[i] = keys[i - 1];
            }
            keys[rank] = key;
            found++;
            if (rank == 0) {
                best = spot;
            }
        }
    }

    /** The rules: what each input and each tick does to the game. */
    private static final class Engine {
        final Game game = new Game();
        final Memory memory = new Memory();
        final Finesse finesse = new Finesse();
        final Search search = new Search();
        private final Field raised = new Field();

        void begin(int seed) {
            memory.forgetRecords();
            game.field.makeEmpty();
            game.bags.begin(seed);
            game.score.begin();
            game.heldKind = NONE;
            game.holdUsed = false;
            game.over = false;
            appear(game.bags.take());
        }

        private void appear(int kind) {
            game.present.appear(kind);
            if (game.present.at.fits(game.field)) {
                memory.nextRecord().copyFrom(game);
            } else {
                game.over = true;
            }
        }

        int rowsToFall() {
            Position at = game.present.at;
            int row = at.row;
            int rows = sinkAsFarAsPossible();
            at.row = row;
            return rows;
        }

        private int sinkAsFarAsPossible() {
            int rows = 0;
            while (rows < ROWS && game.present.at.moveBy(0, -1, game.field)) {
                rows++;
            }
            return rows;
        }

        boolean shiftPiece(int direction) {
            Piece present = game.present;
            boolean couldFall = present.at.canFall(game.field);
            present.inputs++;
            boolean moved = present.at.moveBy(direction, 0, game.field);
            if (moved) {
                present.noteInput(NONE, couldFall, game.resetLimit);
            }
            return moved;
        }

        int slidePiece(int direction) {
            Piece present = game.present;
            boolean couldFall = present.at.canFall(game.field);
            present.inputs++;
            int moved = present.at.slideBy(direction, game.field);
            if (moved > 0) {
                present.noteInput(NONE, couldFall, game.resetLimit);
            }
            return moved;
        }

        int turnPiece(int direction) {
            Piece present = game.present;
            boolean couldFall = present.at.canFall(game.field);
            present.inputs++;
            int kick = present.at.turnBy(direction, game.field);
            if (kick != NONE) {
                present.noteInput(kick, couldFall, game.resetLimit);
            }
            return kick;
        }

        boolean sinkPiece() {
            boolean fell = game.present.at.moveBy(0, -1, game.field);
            if (fell) {
                game.score.points++;
                game.present.noteFall();
            }
            return fell;
        }

        int dropPiece() {
            int rows = sinkAsFarAsPossible();
            if (rows > 0) {
                game.score.points += 2 * rows;
                game.present.noteFall();
            }
            return lock();
        }

        /** Returns the kind that was on hold before, or -1. */
        int swapWithHold() {
            int before = game.heldKind;
            game.heldKind = game.present.at.kind;
            game.holdUsed = true;
            appear(before == NONE ? game.bags.take() : before);
            return before;
        }

        void passTick() {
            Piece present = game.present;
            game.score.ticks++;
            if (present.at.canFall(game.field)) {
                present.fallCounter++;
                if (present.fallCounter >= 11 - game.score.level()) {
                    present.at.row--;
                    present.noteFall();
                }
            } else {
                present.restCounter++;
                if (present.restCounter >= game.lockDelay) {
                    lock();
                }
            }
        }

        /** Returns whether there was room for it. */
        boolean addGarbage(int rows, int hole) {
            if (game.field.greatestHeight() + rows > ROWS) {
                return false;
            }
            raised.copyFrom(game.field);
            raised.raise(rows, hole);
            boolean hasRoom = game.present.at.fits(raised);
            if (hasRoom) {
                game.field.copyFrom(raised);
            }
            return hasRoom;
        }

        /** The search must have been prepared. */
        int lockInBestPlacement() {
            search.moveToBest(game.present.at);
            game.present.noteFall();
            return lock();
        }

        /** Returns the number of rows cleared. */
        private int lock() {
            Piece present = game.present;
            int kind = present.at.kind;
            int spin = findSpin();
            boolean isAbove = present.at.isAllAtOrAbove(20);
            game.field.fillWith(present.at);
            int cleared = game.field.clearFullRows();
            game.score.noteLock(kind, cleared, spin, game.field.countFilled() == 0);
            game.score.noteFinesse(present.inputs, finesse.leastToCellsOf(present.at));
            game.holdUsed = false;
            if (isAbove) {
                game.over = true;
            } else {
                appear(game.bags.take());
            }
            return cleared;
        }

        /** Returns 0 for no spin, 1 for a small and 2 for a full one. */
        private int findSpin() {
            Piece present = game.present;
            if (present.at.kind != SPIN_KIND || present.lastKick == NONE) {
                return 0;
            }
            int filled = 0;
            for (int corner = 0; corner < 4; corner++) {
                if (isCornerFilled(corner)) {
                    filled++;
                }
            }
            if (filled < 3) {
                return 0;
            }
            int state = present.at.state;
            boolean isFrontFilled = isCornerFilled(state) && isCornerFilled((state + 1) % 4);
            return isFrontFilled || present.lastKick >= 4 ? 2 : 1;
        }

        /** The corners go round the box from its upper left, so that the front ones begin at the state's number. */
        private boolean isCornerFilled(int corner) {
            int column = corner == 1 || corner == 2 ? 2 : 0;
            int row = corner < 2 ? 2 : 0;
            return game.field.isFilled(game.present.at.column + column, game.present.at.row + row);
        }
    }

    /** The text buffer. */
    private static final class InputText {
        final char[] signs = new char[BUFFER_LIMIT];
        /** The length of the text that was finished last. */
        int size;
        int fault = NONE;
        private int added;

        /** Returns whether there was room for it. */
        boolean add(char c) {
            if (added < 0 || added >= BUFFER_LIMIT) {
                return false;
            }
            signs[added] = c;
            added++;
            return true;
        }

        /** Empties the buffer, whose signs remain to be read; returns whether they are a text of inputs. */
        boolean finish() {
            size = added;
            added = 0;
            fault = findFault();
            return fault == NONE;
        }

        private int findFault() {
            boolean afterDigit = false;
            for (int i = 0; i < size && i < BUFFER_LIMIT; i++) {
                boolean digit = isDigit(signs[i]);
                if (digit ? afterDigit : !isLetter(signs[i])) {
                    return i;
                }
                afterDigit = digit;
            }
            return size == 0 || afterDigit ? size : NONE;
        }

        /** Returns how often the command at an index is to be carried out, or 0 if there is a digit. */
        int timesAt(int index) {
            if (index < 0 || index >= BUFFER_LIMIT || isDigit(signs[index])) {
                return 0;
            }
            boolean isRepeated = index > 0 && isDigit(signs[index - 1]);
            return isRepeated ? signs[index - 1] - '0' : 1;
        }

        private static boolean isDigit(char c) {
            return c >= '2' && c <= '9';
        }

        private static boolean isLetter(char c) {
            switch (c) {
                case 'l': case 'r': case 'L': case 'R': case 'c':
                case 'a': case 'd': case 'x': case 'h': case 't':
                    return true;
                default:
                    return false;
            }
        }
    }
}
