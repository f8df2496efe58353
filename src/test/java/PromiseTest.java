import java.util.ArrayList;
import java.util.List;

/** At least one test for each promise of the document: ordinary inputs, edges, and wrong inputs. */
public final class PromiseTest {
    private static final String STATE = "IllegalStateException";
    private static final String ARGUMENT = "IllegalArgumentException";
    private static final String INDEX = "IndexOutOfBoundsException";
    private static final String NONE = "NoSuchElementException";
    private static final String UNSUPPORTED = "UnsupportedOperationException";

    private PromiseTest() {
    }

    public static void main(String[] args) {
        promise1NewObject();
        promise2Start();
        promise2StartForgets();
        promise3Set();
        promise4IsOver();
        promise5Piece();
        promise6Next();
        promise7Cell();
        promise8Covers();
        promise8CellsOfAllKinds();
        promise9Shift();
        promise10Slide();
        promise11Rotate();
        promise11Kicks();
        promise12Fall();
        promise13Drop();
        promise14Hold();
        promise15Held();
        promise16Tick();
        promise16Resets();
        promise16LowerRows();
        promise17Garbage();
        promise18Figure();
        promise19Height();
        promise20Statistic();
        promise20Levels();
        promise21Clears();
        promise22Latest();
        promise22HardClears();
        promise22SpinByKick();
        promise22SmallSpin();
        promise22LastMove();
        promise23MeanFaults();
        promise24LeastInputs();
        promise25Placements();
        promise26Placement();
        promise27PlaceBest();
        promise28Append();
        promise29Play();
        promise30FaultPosition();
        promise31Undo();
        promise31UndoOfTheEnd();
        promise32Save();
        promise33Restore();
        if (Script.wrong > 0) {
            System.exit(1);
        }
    }

    /** Returns a script whose game is over, with five pieces of the kinds 0 1 5 3 2 dropped one upon the other. */
    private static Script over(String title) {
        return new Script(title).due("start(0)", "0", "garbage(4,0)", "36", "garbage(4,0)", "72", "garbage(4,0)", "108",
                "garbage(4,0)", "144", "drop()", "0", "drop()", "0", "drop()", "0", "isOver()", "true");
    }

    private static void promise1NewObject() {
        Script script = new Script("promise 1").due("isOver()", "false", "piece(0)", "3", "piece(1)", "0",
                "piece(2)", "3", "piece(3)", "19", "piece(4)", "0", "piece(5)", "0", "piece(6)", "0", "piece(7)", "0",
                "next(0)", "5", "next(1)", "4", "next(2)", "6", "next(3)", "1", "next(4)", "2",
                "statistic(0)", "0", "statistic(1)", "1", "statistic(2)", "0", "statistic(3)", "0",
                "statistic(4)", "-1", "statistic(5)", "-1", "statistic(6)", "0", "statistic(7)", "0",
                "statistic(8)", "0", "held()", NONE, "latest(0)", NONE, "meanFaults()", "ArithmeticException",
                "faultPosition()", "-1", "undo()", UNSUPPORTED, "restore()", NONE, "set(0,5)", "5", "set(1,8)", "8");
        for (int row = 0; row < 22; row++) {
            for (int column = 0; column < 10; column++) {
                script.due("cell(" + column + "," + row + ")", "-1");
            }
        }
    }

    private static void promise2Start() {
        new Script("promise 2").due("start(2147483647)", "4", "next(0)", "6", "next(1)", "2", "next(2)", "3",
                "next(3)", "1", "next(4)", "0", "start(-1)", ARGUMENT, "start(-2147483648)", ARGUMENT,
                "piece(0)", "4", "start(0)", "0", "next(0)", "1", "start(1)", "3", "next(4)", "2");
        for (int seed = 0; seed < 60; seed++) {
            List<Integer> kinds = drawn(seed, 17);
            Script script = new Script("promise 2, seed " + seed).due("start(" + seed + ")", "" + kinds.get(0));
            for (int i = 0; i < 12; i++) {
                script.due("piece(0)", "" + kinds.get(i));
                for (int j = 0; j < 5; j++) {
                    script.due("next(" + j + ")", "" + kinds.get(i + 1 + j));
                }
                script.answer(i % 2 == 0 ? "slide(-1)" : "slide(1)");
                script.due("drop()", "0");
            }
        }
    }

    /** Returns the kinds in the order in which they come out of the bags. */
    private static List<Integer> drawn(int seed, int count) {
        List<Integer> kinds = new ArrayList<>();
        List<Integer> bag = new ArrayList<>();
        long z = seed;
        while (kinds.size() < count) {
            if (bag.isEmpty()) {
                bag.addAll(List.of(0, 1, 2, 3, 4, 5, 6));
            }
            z = (z * 1103515245 + 12345) % 2147483648L;
            kinds.add(bag.remove((int) (z / 65536 % bag.size())));
        }
        return kinds;
    }

    private static void promise2StartForgets() {
        new Script("promise 2, new game").due("set(0,7)", "5", "set(1,3)", "8", "save()", "", "type l", "",
                "garbage(2,3)", "18", "hold()", "-1", "tick(3)", "0", "shift(1)", "true", "drop()", "0",
                "start(1)", "3", "statistic(0)", "0", "statistic(1)", "1", "statistic(3)", "0", "statistic(7)", "0",
                "statistic(8)", "0", "clears(0,0)", "0", "latest(0)", NONE, "figure(0)", "0", "held()", NONE,
                "undo()", UNSUPPORTED, "set(0,7)", "7", "set(1,3)", "3", "hold()", "-1", "start(1)", "3", "hold()", "-1",
                "play()", "1", "piece(7)", "1", "restore()", "", "piece(0)", "3", "piece(7)", "0", "isOver()", "false");
        over("promise 2, after the end").due("type 22", "", "play()", ARGUMENT, "start(1)", "3", "isOver()", "false",
                "piece(0)", "3", "next(0)", "5", "faultPosition()", "1");
    }

    private static void promise3Set() {
        new Script("promise 3").due("set(0,0)", ARGUMENT, "set(0,31)", ARGUMENT, "set(0,1)", "5", "set(0,30)", "1",
                "set(0,-5)", ARGUMENT, "set(0,5)", "30", "set(1,-1)", ARGUMENT, "set(1,21)", ARGUMENT, "set(1,0)", "8",
                "set(1,20)", "0", "set(2,5)", ARGUMENT, "set(-1,5)", ARGUMENT, "set(1,8)", "20", "set(0,5)", "5");
        new Script("promise 3, at once").due("set(0,30)", "5", "play 9d9d2d", "20", "tick(10)", "0", "piece(5)", "10",
                "set(0,10)", "30", "tick(1)", "1", "statistic(3)", "1");
        new Script("promise 3, at once").due("set(0,1)", "5", "play 9d9d2d", "20", "tick(1)", "1");
        new Script("promise 3, after the end").due("set(0,9)", "5");
        over("promise 3, after the end").due("set(0,9)", "5", "set(1,1)", "8");
    }

    private static void promise4IsOver() {
        // Kind 3 locks in the rows 20 and 21 upon twenty rows.
        new Script("promise 4, lock above").due("garbage(4,0)", "36", "garbage(4,0)", "72", "garbage(4,0)", "108",
                "garbage(4,0)", "144", "garbage(4,0)", "180", "isOver()", "false", "piece(3)", "19", "piece(8)", "0",
                "drop()", "0", "isOver()", "true", "statistic(3)", "1", "next(0)", "5", "figure(0)", "184",
                "cell(3,20)", "3");
        // Kind 0 rests in row 19, so that the game goes on until the next piece does not fit.
        new Script("promise 4, no room").due("start(0)", "0", "garbage(4,0)", "36", "garbage(4,0)", "72",
                "garbage(4,0)", "108", "garbage(4,0)", "144", "garbage(3,0)", "171", "drop()", "0", "isOver()", "false",
                "piece(0)", "1", "piece(3)", "20", "drop()", "0", "isOver()", "true", "next(0)", "5");
        // One cell in row 19 is enough for the game to go on; then the next piece does not fit.
        new Script("promise 4, below").due("start(2)", "5", "garbage(4,0)", "36", "garbage(4,0)", "72",
                "garbage(4,0)", "108", "garbage(4,0)", "144", "garbage(3,0)", "171", "drop()", "0", "isOver()", "true",
                "next(0)", "4", "statistic(3)", "1");
    }

    private static void promise5Piece() {
        new Script("promise 5").due("start(0)", "0", "piece(2)", "3", "piece(3)", "18", "piece(8)", "20",
                "start(8)", "1", "piece(2)", "4", "piece(3)", "20", "piece(8)", "20", "start(3)", "2", "piece(0)", "2",
                "piece(2)", "3", "piece(3)", "19", "piece(8)", "20", "rotate(-1)", "0", "piece(1)", "3",
                "piece(8)", "19", "shift(1)", "true", "piece(2)", "4", "tick(4)", "0", "piece(4)", "4",
                "piece(7)", "2", "fall()", "true", "piece(3)", "18", "piece(4)", "0", "piece(8)", "18",
                "garbage(3,0)", "27", "piece(8)", "15", "piece(3)", "18", "piece(-1)", ARGUMENT, "piece(9)", ARGUMENT,
                "drop()", "0", "piece(7)", "0", "piece(1)", "0");
        over("promise 5").due("piece(0)", STATE, "piece(9)", STATE);
    }

    private static void promise6Next() {
        new Script("promise 6").due("next(-1)", INDEX, "next(5)", INDEX, "next(4)", "2", "drop()", "0", "piece(0)", "5",
                "next(0)", "4", "next(4)", "0", "hold()", "-1", "piece(0)", "4", "next(0)", "6", "next(4)", "6",
                "next(3)", "0");
        over("promise 6").due("next(0)", "2", "next(4)", "3", "next(5)", INDEX);
    }

    private static void promise7Cell() {
        new Script("promise 7").due("cell(-1,0)", INDEX, "cell(0,-1)", INDEX, "cell(10,0)", INDEX, "cell(0,22)", INDEX,
                "cell(9,21)", "-1", "cell(3,20)", "-1", "drop()", "0", "cell(3,0)", "3", "cell(4,0)", "3",
                "cell(4,1)", "3", "cell(5,1)", "3", "cell(5,0)", "-1", "cell(3,1)", "-1", "garbage(1,4)", "13",
                "cell(0,0)", "7", "cell(4,0)", "-1", "cell(9,0)", "7", "cell(3,1)", "3", "cell(5,2)", "3",
                "cell(3,0)", "7");
        over("promise 7").due("cell(9,0)", "7", "cell(10,0)", INDEX);
    }

    private static void promise8Covers() {
        new Script("promise 8").due("covers(3,20)", "true", "covers(4,20)", "true", "covers(4,21)", "true",
                "covers(5,21)", "true", "covers(3,21)", "false", "covers(5,20)", "false", "covers(3,19)", "false",
                "covers(-1,0)", INDEX, "covers(10,0)", INDEX, "covers(0,-1)", INDEX, "covers(0,22)", INDEX,
                "slide(-1)", "3", "covers(0,20)", "true", "covers(9,19)", "false", "slide(1)", "7",
                "covers(9,21)", "true", "covers(0,21)", "false");
        over("promise 8").due("covers(0,0)", STATE, "covers(-1,0)", STATE);
    }

    /** The cells of state 0 are those of the document; the others follow by its rule. */
    private static void promise8CellsOfAllKinds() {
        int[] seeds = {0, 8, 3, 1, 4, 2, 7};
        int[][][] cells = {
            {{0, 2}, {1, 2}, {2, 2}, {3, 2}}, {{0, 0}, {1, 0}, {0, 1}, {1, 1}}, {{0, 1}, {1, 1}, {2, 1}, {1, 2}},
            {{0, 1}, {1, 1}, {1, 2}, {2, 2}}, {{1, 1}, {2, 1}, {0, 2}, {1, 2}}, {{0, 1}, {1, 1}, {2, 1}, {0, 2}},
            {{0, 1}, {1, 1}, {2, 1}, {2, 2}},
        };
        int[] sizes = {4, 2, 3, 3, 3, 3, 3};
        for (int kind = 0; kind < 7; kind++) {
            Script script = new Script("promise 8, kind " + kind).due("start(" + seeds[kind] + ")", "" + kind,
                    "play 8d", "8");
            int column = script.number("piece(2)");
            int row = script.number("piece(3)");
            for (int state = 0; state < 4; state++) {
                script.due("piece(1)", "" + state);
                int covered = 0;
                for (int[] cell : cells[kind]) {
                    script.due("covers(" + (column + cell[0]) + "," + (row + cell[1]) + ")", "true");
                    int lower = sizes[kind] - 1 - cell[0];
                    cell[0] = cell[1];
                    cell[1] = lower;
                }
                for (int i = 0; i < 36; i++) {
                    covered += script.answer("covers(" + (column - 1 + i % 6) + "," + (row - 1 + i / 6) + ")")
                            .equals("true") ? 1 : 0;
                }
                script.same("the number of cells", covered, 4);
                script.due("rotate(1)", "0");
            }
            script.due("piece(1)", "0", "piece(2)", "" + column, "piece(3)", "" + row, "rotate(-1)", "0",
                    "piece(1)", "3", "rotate(-1)", "0", "piece(1)", "2", "rotate(-1)", "0", "piece(1)", "1");
        }
    }

    private static void promise9Shift() {
        new Script("promise 9").due("shift(0)", ARGUMENT, "shift(2)", ARGUMENT, "shift(-2)", ARGUMENT,
                "3 shift(-1)", "true", "piece(2)", "0", "shift(-1)", "false", "piece(2)", "0", "piece(7)", "4",
                "7 shift(1)", "true", "shift(1)", "false", "piece(2)", "7", "piece(7)", "12");
        // Kind 5 stops at the pieces on the ground.
        new Script("promise 9, filled cells").due("drop()", "0", "slide(1)", "4", "play 9d9d2d", "20",
                "shift(-1)", "true", "shift(-1)", "false", "piece(2)", "6", "piece(3)", "-1", "piece(7)", "3");
        over("promise 9").due("shift(1)", STATE, "shift(0)", STATE);
    }

    private static void promise10Slide() {
        new Script("promise 10").due("slide(0)", ARGUMENT, "slide(2)", ARGUMENT, "slide(-1)", "3", "slide(-1)", "0",
                "piece(7)", "2", "slide(1)", "7", "piece(2)", "7", "slide(1)", "0", "piece(7)", "4");
        new Script("promise 10, filled cells").due("drop()", "0", "slide(1)", "4", "play 9d9d2d", "20",
                "slide(-1)", "1", "piece(2)", "6");
        over("promise 10").due("slide(1)", STATE, "slide(0)", STATE);
    }

    private static void promise11Rotate() {
        new Script("promise 11").due("rotate(0)", ARGUMENT, "rotate(2)", ARGUMENT, "rotate(-2)", ARGUMENT,
                "rotate(1)", "0", "piece(1)", "1", "rotate(1)", "0", "rotate(1)", "0", "piece(1)", "3", "rotate(1)", "0",
                "piece(1)", "0", "rotate(-1)", "0", "piece(1)", "3", "piece(7)", "5");
        // In one column of garbage, kind 0 can turn neither way.
        new Script("promise 11, failing").due("start(0)", "0", "set(0,30)", "5", "rotate(1)", "0", "slide(1)", "4",
                "play 9d9d", "18", "garbage(4,9)", "36", "rotate(1)", "-1", "rotate(-1)", "-1", "piece(1)", "1",
                "piece(2)", "7", "piece(3)", "0", "piece(7)", "4", "drop()", "4");
        new Script("promise 11, the square").due("start(8)", "1", "garbage(4,0)", "36", "rotate(1)", "0",
                "piece(1)", "1", "piece(2)", "4", "piece(3)", "20", "rotate(-1)", "0", "rotate(-1)", "0",
                "piece(1)", "3", "piece(7)", "3");
        over("promise 11").due("rotate(1)", STATE, "rotate(0)", STATE);
    }

    private static void promise11Kicks() {
        // Upright at the walls, kind 2 needs a column, kind 0 two.
        new Script("promise 11, kicks at walls").due("start(3)", "2", "rotate(1)", "0", "slide(-1)", "4",
                "piece(2)", "-1", "rotate(1)", "2", "piece(2)", "0", "rotate(-1)", "0", "slide(-1)", "1",
                "rotate(-1)", "1", "piece(2)", "0", "rotate(-1)", "0", "slide(1)", "8", "piece(2)", "8");
        new Script("promise 11, kicks at walls").due("start(3)", "2", "rotate(-1)", "0", "slide(1)", "5",
                "piece(2)", "8", "rotate(1)", "1", "piece(2)", "7", "piece(1)", "0", "rotate(-1)", "0",
                "shift(1)", "true", "rotate(-1)", "2", "piece(2)", "7", "piece(1)", "2");
        new Script("promise 11, kicks of the long kind").due("start(0)", "0", "rotate(1)", "0", "slide(-1)", "5",
                "piece(2)", "-2", "rotate(1)", "2", "piece(2)", "0", "rotate(-1)", "0", "slide(-1)", "2",
                "rotate(-1)", "1", "piece(2)", "0", "piece(1)", "0");
        // On the ground, kind 2 turns upwards by kick 3; kind 0 by two rows.
        new Script("promise 11, kicks up").due("start(3)", "2", "play 9d9d2d", "20", "piece(3)", "-1", "rotate(1)", "3",
                "piece(3)", "0", "piece(2)", "3", "start(0)", "0", "play 9d9d2d", "20", "piece(3)", "-2",
                "rotate(1)", "3", "piece(3)", "0", "piece(1)", "1", "rotate(-1)", "0", "piece(3)", "0", "play 9d", "9",
                "rotate(-1)", "3", "piece(3)", "0", "piece(1)", "3");
        // At the top, the long kind turns in its box; in the corner, upright, it goes down by kick 4 only if it must.
        new Script("promise 11, top").due("start(0)", "0", "rotate(1)", "0", "piece(3)", "18", "rotate(1)", "0",
                "piece(1)", "2");
    }

    private static void promise12Fall() {
        new Script("promise 12").due("tick(7)", "0", "piece(4)", "7", "fall()", "true", "piece(4)", "0",
                "piece(3)", "18", "statistic(0)", "1", "19 fall()", "true", "piece(3)", "-1", "statistic(0)", "20",
                "fall()", "false", "statistic(0)", "20", "piece(3)", "-1", "piece(7)", "0", "statistic(3)", "0",
                "tick(2)", "0", "piece(5)", "2", "fall()", "false", "piece(5)", "2");
        // What cannot fall keeps its fall counter.
        new Script("promise 12, nothing changes").due("play 9d9dd", "19", "tick(4)", "0", "piece(4)", "4",
                "garbage(1,0)", "9", "fall()", "false", "piece(4)", "4", "piece(3)", "0");
        over("promise 12").due("fall()", STATE);
    }

    private static void promise13Drop() {
        new Script("promise 13").due("drop()", "0", "statistic(0)", "40", "statistic(3)", "1", "piece(0)", "5",
                "cell(3,0)", "3", "drop()", "0", "statistic(0)", "76", "cell(3,2)", "5");
        new Script("promise 13, clearing").due("start(0)", "0", "garbage(4,9)", "36", "play cR", "2", "drop()", "4",
                "statistic(0)", "1836", "figure(0)", "0", "statistic(2)", "4");
        // Rows above cleared ones move down, those below stay.
        new Script("promise 13, rows move down").due("start(0)", "0", "garbage(1,5)", "9", "garbage(1,2)", "18",
                "garbage(1,5)", "27", "play c", "1", "drop()", "1", "cell(5,0)", "-1", "cell(2,0)", "7", "cell(5,1)", "7",
                "cell(2,1)", "-1", "cell(5,2)", "0", "cell(5,4)", "0", "cell(5,5)", "-1", "figure(0)", "21");
        over("promise 13").due("drop()", STATE);
    }

    private static void promise14Hold() {
        new Script("promise 14").due("tick(3)", "0", "shift(1)", "true", "hold()", "-1", "held()", "3", "piece(0)", "5",
                "piece(2)", "3", "piece(3)", "19", "piece(4)", "0", "piece(7)", "0", "hold()", UNSUPPORTED,
                "drop()", "0", "piece(0)", "4", "shift(1)", "true", "hold()", "3", "held()", "4", "piece(0)", "3",
                "piece(2)", "3", "piece(7)", "0", "hold()", UNSUPPORTED, "next(0)", "6", "tick(200)", "1", "hold()", "4", "piece(0)", "4",
                "held()", "6", "placeBest()", "0", "hold()", "6");
        // Kind 1 leaves no room for kind 0 from the hold, which ends the game; the hold keeps the piece before.
        new Script("promise 14, end").due("start(0)", "0", "hold()", "-1", "piece(0)", "1", "garbage(4,9)", "36",
                "garbage(4,9)", "72", "garbage(4,9)", "108", "garbage(4,9)", "144", "garbage(3,9)", "171",
                "play 2rx", "3", "piece(0)", "5", "hold()", "0", "isOver()", "true", "held()", "5", "next(0)", "3",
                "piece(0)", STATE, "undo()", "3", "isOver()", "false", "piece(0)", "5", "held()", "0", "hold()", "0");
        over("promise 14").due("hold()", STATE);
    }

    private static void promise15Held() {
        new Script("promise 15").due("held()", NONE, "hold()", "-1", "held()", "3", "drop()", "0", "held()", "3",
                "hold()", "3", "held()", "4", "undo()", "3", "held()", "3", "start(3)", "2", "held()", NONE);
        over("promise 15").due("held()", NONE);
    }

    private static void promise16Tick() {
        new Script("promise 16").due("tick(0)", ARGUMENT, "tick(-1)", ARGUMENT, "tick(201)", ARGUMENT, "tick(9)", "0",
                "piece(3)", "19", "piece(4)", "9", "tick(1)", "0", "piece(3)", "18", "piece(4)", "0", "tick(190)", "0",
                "piece(3)", "-1", "piece(4)", "0", "piece(5)", "0", "statistic(8)", "200", "tick(4)", "0",
                "piece(5)", "4", "statistic(3)", "0", "tick(1)", "1", "statistic(3)", "1", "piece(0)", "5",
                "statistic(8)", "205", "statistic(0)", "0", "tick(200)", "1", "statistic(8)", "405");
        // Pieces that rest at once are locked five ticks after each other; ticks after the end are not counted.
        new Script("promise 16, many").due("start(0)", "0", "garbage(4,9)", "36", "garbage(4,9)", "72",
                "garbage(4,9)", "108", "garbage(4,9)", "144", "garbage(4,9)", "180", "set(0,30)", "5",
                "piece(8)", "0", "tick(30)", "1", "isOver()", "true", "statistic(8)", "30", "tick(1)", STATE,
                "tick(0)", ARGUMENT);
        new Script("promise 16, after the end").due("garbage(4,0)", "36", "garbage(4,0)", "72", "garbage(4,0)", "108",
                "garbage(4,0)", "144", "garbage(4,0)", "180", "tick(200)", "1", "isOver()", "true",
                "statistic(8)", "5");
    }

    private static void promise16Resets() {
        // Each input that moves a resting piece sets the rest counter back, so often as the limit tells.
        new Script("promise 16, resets").due("set(1,2)", "8", "play 9d9d2d", "20", "tick(3)", "0", "shift(1)", "true",
                "piece(5)", "0", "piece(6)", "1", "tick(4)", "0", "slide(1)", "3", "piece(5)", "0", "piece(6)", "2",
                "tick(2)", "0", "slide(-1)", "7", "piece(5)", "2", "piece(6)", "2", "tick(3)", "1");
        new Script("promise 16, no reset").due("play 9d9d2d", "20", "slide(-1)", "3", "piece(6)", "1", "tick(3)", "0",
                "shift(-1)", "false", "slide(-1)", "0", "piece(5)", "3", "piece(6)", "1", "shift(1)", "true",
                "piece(5)", "0", "piece(6)", "2");
        new Script("promise 16, limit 0").due("set(1,0)", "8", "play 9d9d2d", "20", "tick(3)", "0",
                "shift(1)", "true", "piece(5)", "3", "piece(6)", "0");
        new Script("promise 16, in the air").due("play 9d9d", "18", "shift(1)", "true", "rotate(1)", "0",
                "piece(6)", "0");
        new Script("promise 16, turning square").due("start(8)", "1", "play 9d9d2d", "20", "tick(1)", "0",
                "rotate(1)", "0", "piece(5)", "0", "piece(6)", "1", "rotate(-1)", "0", "piece(6)", "2");
        // A piece that was kicked up rests again with its counters as they are, for its row is not lower than before.
        new Script("promise 16, up and down").due("start(3)", "2", "play 9d9d2d", "20", "tick(2)", "0",
                "rotate(1)", "3", "piece(5)", "0", "piece(6)", "1", "tick(3)", "0", "piece(5)", "3", "rotate(-1)", "0",
                "piece(5)", "0", "piece(6)", "2", "fall()", "true", "piece(3)", "-1", "piece(6)", "2");
    }

    private static void promise16LowerRows() {
        // Kind 3 rests upon kind 1 and then falls lower beside it, which sets both counters back.
        new Script("promise 16, lower rows").due("start(8)", "1", "drop()", "0", "shift(1)", "true", "play 9d9d", "18",
                "piece(3)", "1", "piece(8)", "0", "tick(2)", "0", "shift(1)", "true", "piece(6)", "1", "piece(5)", "0",
                "tick(2)", "0", "shift(1)", "true", "piece(6)", "2", "piece(8)", "2", "tick(9)", "0", "piece(6)", "2",
                "tick(1)", "0", "piece(3)", "0", "piece(6)", "0");
        new Script("promise 16, lower rows").due("start(8)", "1", "set(1,0)", "8", "drop()", "0", "2 shift(1)", "true",
                "play 9d9d", "18", "tick(3)", "0", "piece(5)", "3", "shift(1)", "true", "piece(5)", "3",
                "piece(6)", "0", "fall()", "true", "piece(5)", "0");
        // The tick in which a piece is locked is counted when the next one appears.
        new Script("promise 16, record").due("play 9d9d2d5t", "25", "statistic(3)", "1", "drop()", "0", "undo()", "2",
                "statistic(8)", "5");
    }

    private static void promise17Garbage() {
        new Script("promise 17").due("garbage(0,0)", ARGUMENT, "garbage(5,0)", ARGUMENT, "garbage(1,-1)", ARGUMENT,
                "garbage(1,10)", ARGUMENT, "drop()", "0", "garbage(2,9)", "22", "cell(9,0)", "-1", "cell(9,1)", "-1",
                "cell(0,0)", "7", "cell(8,1)", "7", "cell(0,2)", "-1", "cell(3,2)", "3", "cell(5,3)", "3",
                "piece(3)", "19", "garbage(4,0)", "58", "cell(0,3)", "-1", "cell(0,4)", "7", "cell(9,4)", "-1");
        // A filled cell would move out of row 21.
        new Script("promise 17, refused").due("slide(-1)", "3", "garbage(4,9)", "36", "garbage(4,9)", "72",
                "garbage(4,9)", "108", "garbage(4,9)", "144", "garbage(4,9)", "180", "drop()", "0",
                "isOver()", "true", "garbage(5,0)", ARGUMENT, "garbage(1,0)", STATE);
        new Script("promise 17, refused").due("garbage(4,9)", "36", "garbage(4,9)", "72", "garbage(4,9)", "108",
                "garbage(4,9)", "144", "garbage(3,9)", "171", "slide(1)", "4", "garbage(2,9)", UNSUPPORTED,
                "garbage(4,9)", UNSUPPORTED, "garbage(1,9)", "180", "garbage(1,9)", UNSUPPORTED,
                "garbage(1,1)", UNSUPPORTED);
        // The present piece stays in the hole, where it fits.
        new Script("promise 17, in the hole").due("start(0)", "0", "play cR9d9d", "20", "garbage(1,8)", UNSUPPORTED,
                "garbage(1,9)", "9", "piece(3)", "0", "garbage(4,9)", "45", "garbage(1,0)", UNSUPPORTED,
                "drop()", "4");
        over("promise 17").due("garbage(1,0)", STATE, "garbage(0,0)", ARGUMENT);
    }

    private static void promise18Figure() {
        new Script("promise 18").due("figure(-1)", ARGUMENT, "figure(7)", ARGUMENT, "figure(0)", "0", "figure(1)", "0",
                "figure(2)", "0", "figure(3)", "0", "figure(4)", "0", "figure(5)", "0", "figure(6)", "0",
                "drop()", "0",
                // Kind 3 at 3,0 4,0 4,1 5,1: heights 0 0 0 1 2 2 0 0 0 0.
                "figure(0)", "4", "figure(1)", "1", "figure(2)", "5", "figure(3)", "2", "figure(4)", "4",
                "figure(5)", "8", "figure(6)", "0", "garbage(1,0)", "13",
                // Heights 0 1 1 2 3 3 1 1 1 1.
                "figure(1)", "1", "figure(2)", "14", "figure(3)", "3", "figure(4)", "5", "figure(5)", "10",
                "figure(6)", "1", "garbage(1,4)", "22",
                // Heights 1 2 2 3 4 4 2 2 2 2; holes at 4,0 and 5,2.
                "figure(1)", "2", "figure(2)", "24", "figure(4)", "5", "figure(5)", "12", "figure(6)", "1");
        new Script("promise 18, wells").due("garbage(4,9)", "36", "figure(6)", "4", "figure(2)", "36", "figure(4)", "4",
                "garbage(2,5)", "54", "figure(6)", "4", "figure(1)", "2", "figure(5)", "12", "start(1)", "3",
                "garbage(3,5)", "27", "figure(6)", "3", "figure(4)", "6", "figure(1)", "0");
        over("promise 18").due("figure(3)", "21");
    }

    private static void promise19Height() {
        new Script("promise 19").due("height(-1)", INDEX, "height(10)", INDEX, "height(0)", "0", "height(9)", "0",
                "drop()", "0", "height(2)", "0", "height(3)", "1", "height(4)", "2", "height(5)", "2", "height(6)", "0",
                "garbage(3,3)", "31", "height(3)", "4", "height(0)", "3", "height(9)", "3");
        over("promise 19").due("height(0)", "0", "height(10)", INDEX);
    }

    private static void promise20Statistic() {
        new Script("promise 20").due("statistic(-1)", ARGUMENT, "statistic(9)", ARGUMENT, "play 2l2rd2t", "7",
                "drop()", "0", "statistic(0)", "39", "statistic(3)", "1", "statistic(4)", "-1", "statistic(5)", "-1",
                "statistic(6)", "4", "statistic(7)", "4", "statistic(8)", "2", "play rx", "2", "statistic(6)", "4",
                "statistic(7)", "5", "play l", "1", "statistic(7)", "5");
        // Two clears of four rows each: 800 without a combo, then 1200 and 50.
        new Script("promise 20, combo").due("start(13)", "2", "play Lxx", "3", "play Lxx", "3", "play Lxx", "3",
                "garbage(4,9)", "60", "garbage(4,9)", "96", "play cRx", "3", "latest(3)", "800", "latest(6)", "0",
                "statistic(4)", "0", "statistic(5)", "0", "play cRx", "3", "latest(3)", "1250", "latest(6)", "1",
                "statistic(4)", "1", "statistic(5)", "1", "statistic(2)", "8", "statistic(1)", "1", "drop()", "0",
                "statistic(4)", "-1", "statistic(5)", "1", "undo()", "5", "statistic(4)", "1");
        new Script("promise 20, combo").due("start(0)", "0", "garbage(4,9)", "36", "hold()", "-1", "play LxLxLxLxLx",
                "10", "statistic(2)", "0", "statistic(5)", "-1", "hold()", "0", "play cRx", "3", "statistic(2)", "4",
                "statistic(4)", "0", "statistic(5)", "0", "play LxLx", "4", "statistic(4)", "-1", "statistic(5)", "0");
    }

    /** Compares score, combo and level with their rules through a long game. */
    private static void promise20Levels() {
        Script script = new Script("promise 20, levels").due("start(7)", "6");
        int score = 0;
        int rows = 0;
        int combo = -1;
        boolean hardBefore = false;
        int[] points = {0, 100, 300, 500, 800};
        for (int i = 0; i < 50; i++) {
            if (i % 7 == 0) {
                script.answer("garbage(2,4)");
            }
            int level = Math.min(10, 1 + rows / 10);
            int cleared = script.number("placeBest()");
            boolean hard = cleared == 4;
            int due = points[cleared] * (hard && hardBefore ? 3 : 2) / 2;
            combo = cleared > 0 ? combo + 1 : -1;
            hardBefore = cleared > 0 ? hard : hardBefore;
            due += cleared > 0 ? 50 * combo : 0;
            due += cleared > 0 && script.number("figure(0)") == 0 ? 1000 : 0;
            score += due * level;
            rows += cleared;
            script.due("latest(3)", "" + due * level, "statistic(0)", "" + score, "statistic(2)", "" + rows,
                    "statistic(4)", "" + combo, "statistic(1)", "" + Math.min(10, 1 + rows / 10));
        }
        int period = 11 - script.number("statistic(1)");
        int row = script.number("piece(3)");
        script.same("a level above 2", period < 9, true);
        script.due("tick(" + (period - 1) + ")", "0", "piece(3)", "" + row, "piece(4)", "" + (period - 1),
                "tick(1)", "0", "piece(3)", "" + (row - 1), "piece(4)", "0");
    }

    private static void promise21Clears() {
        new Script("promise 21").due("clears(-1,0)", ARGUMENT, "clears(5,0)", ARGUMENT, "clears(0,-1)", ARGUMENT,
                "clears(0,3)", ARGUMENT, "start(0)", "0", "clears(0,0)", "0", "garbage(4,9)", "36", "play cRx", "3",
                "clears(4,0)", "1", "clears(0,0)", "0", "drop()", "0", "clears(0,0)", "1", "clears(4,0)", "1",
                "clears(4,2)", "0", "clears(4,1)", "0", "undo()", "2", "clears(0,0)", "0", "clears(4,0)", "1");
    }

    private static void promise22Latest() {
        new Script("promise 22").due("latest(0)", NONE, "latest(7)", NONE, "latest(-1)", NONE, "play 2rlx", "4",
                "latest(-1)", ARGUMENT, "latest(7)", ARGUMENT, "latest(0)", "3", "latest(1)", "0", "latest(2)", "0",
                "latest(3)", "0", "latest(4)", "3", "latest(5)", "1", "latest(6)", "0", "start(1)", "3",
                "latest(0)", NONE);
        new Script("promise 22, clear").due("start(0)", "0", "garbage(4,9)", "36", "play c4rx", "6", "latest(0)", "0",
                "latest(1)", "4", "latest(2)", "0", "latest(3)", "1800", "latest(4)", "5", "latest(5)", "2",
                "latest(6)", "0");
        // Lying in state 2, the long kind has the cells of state 0, but for a row.
        new Script("promise 22, least inputs by cells").due("start(0)", "0", "play ccx", "3", "latest(4)", "2",
                "latest(5)", "0", "statistic(6)", "2", "start(8)", "1", "play ccrx", "4", "latest(5)", "1",
                "statistic(6)", "2");
    }

    /** Two rows with a full spin, then four rows after two pieces without a clear. */
    private static void promise22HardClears() {
        new Script("promise 22, hard clears").due("start(8)", "1", "garbage(1,8)", "9", "play Lx2rxlx", "7",
                "play cR9d9dd", "21", "rotate(1)", "0", "piece(2)", "7", "piece(3)", "0", "piece(1)", "2",
                "shift(-1)", "false", "drop()", "2", "latest(2)", "2", "latest(3)", "1200", "latest(6)", "0",
                "clears(2,2)", "1", "garbage(4,9)", "41", "2 drop()", "0", "latest(3)", "0", "play cRx", "3",
                "latest(1)", "4", "latest(3)", "1200", "latest(6)", "1", "statistic(4)", "0");
        // One row with a small spin is hard as well, after a clear of four rows and before one.
        new Script("promise 22, hard small spins").due("start(25)", "0", "garbage(4,9)", "36", "play cRx", "3",
                "latest(3)", "1800", "garbage(1,9)", "9", "play R9d9dd", "20", "rotate(-1)", "1", "drop()", "1",
                "latest(2)", "1", "latest(3)", "350", "latest(6)", "1", "clears(1,1)", "1");
        new Script("promise 22, hard small spins").due("start(41)", "2", "garbage(1,9)", "9", "play R9d9dd", "20",
                "rotate(-1)", "1", "drop()", "1", "latest(2)", "1", "latest(3)", "200", "latest(6)", "0",
                "garbage(4,0)", "39", "play cLx", "3", "latest(1)", "4", "latest(3)", "1250", "latest(6)", "1",
                "latest(0)", "0");
        // A spin without a row is no clear, so that its points are not raised after a hard one, and it changes nothing.
        new Script("promise 22, no clear").due("start(313)", "0", "garbage(4,9)", "36", "play cRx", "3",
                "latest(3)", "1800", "play 3rx", "4", "play R9d9d", "19", "rotate(-1)", "1", "drop()", "0",
                "latest(2)", "1", "latest(3)", "100", "latest(6)", "0");
        new Script("promise 22, no clear").due("start(78)", "1", "play 3rx", "4", "play R9d9d", "19", "rotate(-1)", "1",
                "drop()", "0", "latest(2)", "1", "garbage(4,0)", "44", "play cLx", "3", "latest(1)", "4",
                "latest(3)", "800", "latest(6)", "0");
        // So is one row with a full spin, under the edge of kind 3.
        new Script("promise 22, hard full spins").due("start(21)", "3", "garbage(1,8)", "9", "play 2rx", "3",
                "play cR9d9dd", "21", "rotate(1)", "0", "drop()", "1", "latest(2)", "2", "latest(3)", "800",
                "latest(6)", "0", "play LxLxLx", "6", "garbage(4,4)", "55", "play clx", "3", "latest(1)", "4",
                "latest(3)", "1200", "latest(6)", "1");
    }

    /**
     * Kind 2 lies on garbage, which was put below it, under a block; it turns upright by kick 4 with the front corner
     * below it open.
     */
    private static void promise22SpinByKick() {
        new Script("promise 22, spin by kick").due("start(286)", "1", "play lx", "2", "play 2lx", "3", "play L9d7d",
                "17", "piece(3)", "3", "garbage(4,9)", "44", "rotate(1)", "4", "piece(2)", "-1", "piece(3)", "4",
                "drop()", "0", "latest(2)", "2", "latest(3)", "400", "clears(0,2)", "1");
    }

    private static void promise22SmallSpin() {
        // Upright at the wall, upon the edge of kind 1: three corners are filled, but only one of the front ones.
        new Script("promise 22, small spin").due("start(78)", "1", "play 3rx", "4", "play R9d9d", "19",
                "rotate(-1)", "1", "piece(2)", "8", "piece(3)", "1", "piece(8)", "0", "shift(1)", "false",
                "fall()", "false", "tick(5)", "1", "latest(2)", "1", "latest(3)", "100", "statistic(4)", "-1",
                "clears(0,1)", "1", "clears(0,0)", "1");
        // Under an edge that garbage lifted above the piece: the front corner below is open, the back is the wall.
        new Script("promise 22, small spin").due("start(286)", "1", "play lx", "2", "play 2lx", "3", "play ccL9d6d", "18",
                "garbage(4,9)", "44", "rotate(-1)", "2", "piece(1)", "1", "piece(2)", "-1", "drop()", "0",
                "latest(2)", "1", "latest(3)", "100");
        new Script("promise 22, small spin").due("start(286)", "1", "play rx", "2", "play 2rx", "3", "play ccR9d6d", "18",
                "garbage(4,0)", "44", "rotate(1)", "2", "piece(1)", "3", "piece(2)", "8", "drop()", "0",
                "latest(2)", "1", "latest(3)", "100");
        // After a fall to the same place, there is no spin.
        new Script("promise 22, no spin").due("start(78)", "1", "play 3rx", "4", "play aR", "2", "piece(8)", "18",
                "drop()", "0", "latest(2)", "0", "latest(3)", "0", "clears(0,0)", "2");
    }

    /** In all of these, three corners are filled, but the last move is no rotation. */
    private static void promise22LastMove() {
        String[][] ways = {{"slide(1)", "2"}, {"2 shift(1)", "true"}};
        for (String[] way : ways) {
            new Script("promise 22, last move").due("start(34)", "4", "garbage(1,3)", "9", "play 3rx", "4",
                    "play cl9d9dd", "21", "rotate(-1)", "0", "piece(8)", "0", way[0], way[1], "piece(2)", "4",
                    "piece(3)", "0", "piece(8)", "0", "covers(5,2)", "true", "cell(6,2)", "4", "drop()", "0",
                    "latest(2)", "0", "latest(3)", "0");
        }
        // The rotation of the piece before does not count; garbage comes up round the piece where it appeared.
        new Script("promise 22, no move").due("start(34)", "4", "play 2r9d9d2d", "22", "rotate(1)", "3", "rotate(1)", "0",
                "drop()", "0", "cell(5,0)", "-1", "cell(5,1)", "4", "garbage(4,9)", "40", "garbage(4,9)", "76",
                "garbage(4,9)", "112", "garbage(4,9)", "148", "garbage(4,9)", "184", "piece(0)", "2", "piece(8)", "0",
                "cell(5,21)", "4", "drop()", "0", "latest(2)", "0", "latest(3)", "0", "isOver()", "true");
    }

    private static void promise23MeanFaults() {
        new Script("promise 23").due("meanFaults()", "ArithmeticException", "drop()", "0", "meanFaults()", "0.0",
                "play lrx", "3", "meanFaults()", "1.0", "drop()", "0", "meanFaults()", "" + 2.0 / 3.0, "start(1)", "3",
                "meanFaults()", "ArithmeticException");
    }

    private static void promise24LeastInputs() {
        Script script = new Script("promise 24").due("leastInputs(-1,0,3)", ARGUMENT, "leastInputs(7,0,3)", ARGUMENT,
                "leastInputs(0,-1,3)", ARGUMENT, "leastInputs(0,4,3)", ARGUMENT, "leastInputs(7,0,99)", ARGUMENT,
                "leastInputs(0,0,-1)", NONE, "leastInputs(0,0,7)", NONE, "leastInputs(0,0,2147483647)", NONE,
                "leastInputs(0,0,-2147483648)", NONE, "leastInputs(0,1,-3)", NONE, "leastInputs(0,1,-2)", "2",
                "leastInputs(0,1,7)", "2", "leastInputs(0,1,8)", NONE, "leastInputs(0,3,-2)", NONE,
                "leastInputs(0,3,8)", "2", "leastInputs(0,3,9)", NONE, "leastInputs(0,0,6)", "1",
                "leastInputs(1,0,4)", "0", "leastInputs(1,0,9)", NONE, "leastInputs(1,0,8)", "1",
                "leastInputs(1,2,4)", "2", "leastInputs(1,2,8)", "3", "leastInputs(2,0,1)", "2",
                "leastInputs(2,0,2)", "1", "leastInputs(2,0,6)", "2", "leastInputs(2,0,7)", "1",
                "leastInputs(2,1,-1)", "2", "leastInputs(2,1,8)", NONE, "leastInputs(2,3,8)", "2",
                "leastInputs(2,3,-1)", NONE, "leastInputs(2,2,3)", "2");
        script.due("drop()", "0", "leastInputs(2,2,3)", "2", "leastInputs(6,0,3)", "0");
        over("promise 24").due("leastInputs(6,0,3)", "0");
    }

    private static void promise25Placements() {
        // In the empty field: 17 of kind 0, 9 of kind 1, 17 of the kinds 3 and 4, 34 of the others.
        int[] seeds = {0, 8, 3, 1, 4, 2, 7};
        String[] due = {"17", "9", "34", "17", "17", "34", "34"};
        for (int kind = 0; kind < 7; kind++) {
            new Script("promise 25").due("start(" + seeds[kind] + ")", "" + kind, "placements()", due[kind],
                    "piece(7)", "0", "statistic(0)", "0");
        }
        // In a shaft of four rows, an upright piece has one place only.
        new Script("promise 25, from where it is").due("start(0)", "0", "play cR9d9d", "20", "garbage(4,9)", "36",
                "placements()", "1", "fall()", "false");
        over("promise 25").due("placements()", STATE);
    }

    private static void promise26Placement() {
        Script script = new Script("promise 26").due("start(8)", "1", "placement(0,0)", "0", "placement(0,1)", "0",
                "placement(0,2)", "4", "placement(0,3)", "2", "placement(0,4)", "0", "placement(0,5)", "1",
                "placement(0,6)", "10", "placement(0,7)", "11", "placement(1,4)", "8", "placement(1,3)", "2",
                "placement(2,4)", "1", "placement(2,3)", "4", "placement(8,4)", "7", "placement(9,0)", NONE,
                "placement(-1,0)", NONE, "placement(9,8)", NONE, "placement(8,8)", ARGUMENT, "placement(8,-1)", ARGUMENT);
        script.due("garbage(2,9)", "18", "placement(0,0)", "0");
        // More rows come first: kind 0 in the shaft of four rows.
        new Script("promise 26, rows").due("start(0)", "0", "garbage(4,9)", "36", "placement(0,0)", "4",
                "placement(0,1)", "0", "placement(0,2)", "0", "placement(0,3)", "0", "placement(0,4)", "9",
                "placement(0,7)", "39", "placement(1,0)", "0", "placement(1,1)", "0");
        // What was found before does not hold after a move or a change of the field.
        new Script("promise 26, anew").due("start(0)", "0", "placements()", "17", "garbage(4,9)", "36",
                "placement(0,0)", "4", "drop()", "0", "placement(0,0)", "0", "undo()", "1", "placement(0,2)", "4",
                "play cR9d9d", "20", "placements()", "17", "garbage(4,9)", "36", "placements()", "1");
        over("promise 26").due("placement(0,0)", STATE, "placement(-1,9)", STATE);
    }

    private static void promise27PlaceBest() {
        new Script("promise 27").due("start(8)", "1", "play l", "1", "placeBest()", "0", "cell(0,0)", "1",
                "cell(1,1)", "1", "statistic(0)", "0", "statistic(3)", "1", "latest(4)", "1", "latest(5)", "1");
        new Script("promise 27, clear").due("start(0)", "0", "garbage(4,9)", "36", "placeBest()", "4",
                "latest(1)", "4", "latest(3)", "1800", "statistic(0)", "1800", "latest(4)", "0", "latest(5)", "2",
                "statistic(6)", "0", "piece(0)", "1");
        // The place that gives a full spin by hand gives none here.
        new Script("promise 27, no spin").due("start(8)", "1", "garbage(1,8)", "9", "play Lx2rxlx", "7",
                "play cR9d9ddc", "22", "placement(0,0)", "2", "placeBest()", "2", "latest(2)", "0", "latest(3)", "300");
        over("promise 27").due("placeBest()", STATE);
    }

    private static void promise28Append() {
        Script script = new Script("promise 28").due("60 append('l')", "", "append('l')", STATE, "append('?')", STATE,
                "play()", "60", "piece(7)", "60", "append('?')", "", "play()", ARGUMENT, "append('l')", "", "play()", "1");
        script.game.append('\uffff');
        script.due("play()", ARGUMENT, "faultPosition()", "0");
    }

    private static void promise29Play() {
        new Script("promise 29").due("play lrLRcadt", "8", "piece(7)", "6", "statistic(8)", "1", "statistic(0)", "1",
                "play 3l9t", "12", "piece(7)", "9", "play x", "1", "statistic(3)", "1", "play()", ARGUMENT);
        new Script("promise 29, letters").due("play 2l", "2", "piece(2)", "1", "play r", "1", "piece(2)", "2",
                "play L", "1", "piece(2)", "0", "play R", "1", "piece(2)", "7", "play c", "1", "piece(1)", "1",
                "play a", "1", "piece(1)", "0", "play a", "1", "piece(1)", "3", "play d", "1", "piece(3)", "18",
                "play 9t", "9", "piece(4)", "9", "play h", "1", "held()", "3", "piece(0)", "5");
        new Script("promise 29, hold left out").due("play 3hlhr", "3", "held()", "3", "piece(0)", "5", "piece(7)", "2",
                "play hhxhl", "3", "held()", "4", "piece(0)", "3");
        new Script("promise 29, until the end").due("play 9x9x9x", "13", "isOver()", "true", "statistic(3)", "13",
                "play l", STATE, "play()", ARGUMENT, "play 2", ARGUMENT, "faultPosition()", "1", "play l", STATE,
                "faultPosition()", "-1");
        // A text that is wrong is not carried out at all; the buffer is emptied all the same.
        new Script("promise 29, wrong texts").due("play lll?", ARGUMENT, "piece(7)", "0", "play l", "1", "play l1",
                ARGUMENT, "play 1l", ARGUMENT, "play 0l", ARGUMENT, "play 22l", ARGUMENT, "play l2", ARGUMENT,
                "play l l", ARGUMENT, "play X", ARGUMENT, "play D", ARGUMENT, "play r", "1", "piece(2)", "3");
        over("promise 29").due("play l", STATE, "play l?", ARGUMENT, "undo()", "3", "play l", "1");
    }

    private static void promise30FaultPosition() {
        new Script("promise 30").due("faultPosition()", "-1", "type l?", "", "faultPosition()", "-1",
                "play()", ARGUMENT, "faultPosition()", "1", "type lr", "", "faultPosition()", "1", "play()", "2",
                "faultPosition()", "-1", "play()", ARGUMENT, "faultPosition()", "0", "play 2", ARGUMENT,
                "faultPosition()", "1", "play l3", ARGUMENT, "faultPosition()", "2", "play 23l", ARGUMENT,
                "faultPosition()", "1", "play 1l", ARGUMENT, "faultPosition()", "0", "play 2lr1", ARGUMENT,
                "faultPosition()", "3", "undo()", UNSUPPORTED, "faultPosition()", "3", "save()", "", "restore()", "",
                "start(1)", "3", "faultPosition()", "3");
    }

    private static void promise31Undo() {
        new Script("promise 31").due("undo()", UNSUPPORTED, "shift(1)", "true", "undo()", UNSUPPORTED, "tick(4)", "0",
                "drop()", "0", "garbage(1,0)", "13", "undo()", "1", "piece(0)", "3", "piece(2)", "3", "piece(7)", "0",
                "figure(0)", "0", "statistic(0)", "0", "statistic(3)", "0", "statistic(8)", "0", "next(0)", "5",
                "next(4)", "2", "undo()", UNSUPPORTED, "drop()", "0", "piece(0)", "5", "next(4)", "0");
        // Six records are kept, so five can be undone.
        new Script("promise 31, records").due("play LxRxLxRxLxRx", "12", "undo()", "5", "undo()", "4", "undo()", "3",
                "undo()", "2", "undo()", "1", "undo()", UNSUPPORTED, "piece(0)", "5", "statistic(3)", "1",
                "play LxRxLx", "6", "undo()", "3", "piece(0)", "6");
        // The hold and its use belong to a record, the settings do not.
        new Script("promise 31, hold").due("set(0,9)", "5", "set(1,9)", "8", "hold()", "-1", "set(0,6)", "9",
                "set(1,6)", "9", "drop()", "0", "hold()", "3", "undo()", "3", "held()", "3", "piece(0)", "4",
                "hold()", "3", "undo()", "3", "undo()", "2", "piece(0)", "5", "held()", "3", "hold()", UNSUPPORTED,
                "undo()", "1", "held()", NONE, "piece(0)", "3", "hold()", "-1", "set(0,5)", "6", "set(1,5)", "6");
        new Script("promise 31, text").due("drop()", "0", "type ll", "", "undo()", "1", "play()", "2");
        new Script("promise 31, snapshot").due("save()", "", "drop()", "0", "drop()", "0", "undo()", "2",
                "restore()", "", "statistic(3)", "0", "undo()", UNSUPPORTED);
    }

    private static void promise31UndoOfTheEnd() {
        over("promise 31, end").due("undo()", "3", "isOver()", "false", "piece(0)", "5", "statistic(3)", "2",
                "undo()", "2", "piece(0)", "1", "undo()", "1", "piece(0)", "0", "undo()", UNSUPPORTED);
        new Script("promise 31, end without records").due("garbage(4,0)", "36", "garbage(4,0)", "72",
                "garbage(4,0)", "108", "garbage(4,0)", "144", "garbage(4,0)", "180", "save()", "", "restore()", "",
                "drop()", "0", "isOver()", "true", "undo()", UNSUPPORTED, "save()", "", "start(5)", "0",
                "restore()", "", "isOver()", "true", "undo()", UNSUPPORTED, "piece(0)", STATE, "figure(0)", "184");
    }

    private static void promise32Save() {
        new Script("promise 32").due("shift(1)", "true", "tick(3)", "0", "set(0,7)", "5", "save()", "", "drop()", "0",
                "set(0,9)", "7", "restore()", "", "piece(0)", "3", "piece(2)", "4", "piece(4)", "3", "piece(7)", "1",
                "set(0,9)", "7", "statistic(3)", "0", "statistic(8)", "3", "drop()", "0", "save()", "", "drop()", "0",
                "restore()", "", "statistic(3)", "1", "piece(0)", "5");
        // Saving forgets nothing.
        new Script("promise 32, records").due("drop()", "0", "save()", "", "undo()", "1", "piece(0)", "3");
    }

    private static void promise33Restore() {
        new Script("promise 33").due("restore()", NONE, "hold()", "-1", "set(1,3)", "8", "save()", "", "drop()", "0",
                "garbage(2,2)", "22", "set(1,4)", "3", "restore()", "", "set(1,3)", "3", "figure(0)", "0",
                "held()", "3", "hold()", UNSUPPORTED, "undo()", UNSUPPORTED, "next(0)", "4", "drop()", "0",
                "undo()", UNSUPPORTED, "drop()", "0", "undo()", "1", "restore()", "", "statistic(3)", "0", "restore()", "",
                "play x", "1", "latest(0)", "5");
        // The last move and the lowest row are saved, too.
        new Script("promise 33, spin").due("start(8)", "1", "garbage(1,8)", "9", "play Lx2rxlx", "7",
                "play cR9d9ddc", "22", "save()", "", "start(5)", "0", "drop()", "0", "restore()", "", "drop()", "2",
                "latest(2)", "2");
        new Script("promise 33, text").due("save()", "", "type ll", "", "restore()", "", "play()", "2");
    }
}
