import java.util.Arrays;

/**
 * Tests of the rules that the document tells under "Description", from "Field" to "Placements", at their boundaries; each
 * cites its sentence.
 */
final class RuleCases {
    private static final String STATE = "IllegalStateException";
    private static final String INDEX = "IndexOutOfBoundsException";

    /** The seeds with which the first piece has the kinds 0 to 6. */
    private static final int[] SEEDS = {0, 8, 3, 1, 4, 2, 7};

    /** The boxes of each kind in the states 0 to 3, their rows from the top. */
    private static final String[][] BOXES = {
        {"..../XXXX/..../....", "..X./..X./..X./..X.", "..../..../XXXX/....", ".X../.X../.X../.X.."},
        {"XX/XX", "XX/XX", "XX/XX", "XX/XX"},
        {".X./XXX/...", ".X./.XX/.X.", ".../XXX/.X.", ".X./XX./.X."},
        {".XX/XX./...", ".X./.XX/..X", ".../.XX/XX.", "X../XX./.X."},
        {"XX./.XX/...", "..X/.XX/.X.", ".../XX./.XX", ".X./XX./X.."},
        {"X../XXX/...", ".XX/.X./.X.", ".../XXX/..X", ".X./.X./XX."},
        {"..X/XXX/...", ".X./.X./.XX", ".../XXX/X..", "XX./.X./.X."},
    };

    /** Twenty rows of garbage, with the column 0 open. */
    private static final String[] HIGH = {"garbage(4,0)", "garbage(4,0)", "garbage(4,0)", "garbage(4,0)", "garbage(4,0)"};

    private RuleCases() {
    }

    static void all() {
        field();
        pieces();
        fitting();
        appearing();
        appearingWithoutRoom();
        bags();
        shiftsAndSlides();
        rotations();
        kicks();
        ticks();
        restCounters();
        resets();
        lowerRows();
        locking();
        clearing();
        endByLocking();
        lastMoves();
        corners();
        cornersOutside();
        cornersByState();
        points();
        hardClears();
        combos();
        levels();
        finesse();
        placements();
        ranking();
    }

    private static void field() {
        Script.of("Field", "10 columns, 0 to 9 from left to right, and 22 rows, 0 to 21 from the bottom to the top").due(
                "cell(0,0)", "-1", "cell(9,0)", "-1", "cell(0,21)", "-1", "cell(9,21)", "-1", "cell(-1,0)", INDEX,
                "cell(10,0)", INDEX, "cell(0,-1)", INDEX, "cell(0,22)", INDEX, "start(8)", "1", "slide(-1)", "4",
                "covers(0,21)", "true", "covers(1,20)", "true", "slide(1)", "8", "covers(9,21)", "true",
                "covers(8,20)", "true", "piece(8)", "20", "drop()", "0", "cell(9,0)", "1", "cell(8,1)", "1",
                "cell(9,2)", "-1", "slide(-1)", "3", "drop()", "0", "cell(0,0)", "3", "cell(1,1)", "3");
        // A piece of kind k leaves k in its columns, whichever row they are in.
        for (int kind = 0; kind < 7; kind++) {
            Script.of("Field", "a filled cell has a kind, 0 to 6 for those of pieces and 7 for garbage")
                    .after("start(" + SEEDS[kind] + ")").due("cell(4,0)", "-1", "drop()", "0", "cell(4,0)", "" + kind,
                    "cell(9,0)", "-1", "garbage(1,4)", "13", "cell(4,0)", "-1", "cell(9,0)", "7", "cell(4,1)", "" + kind);
        }
    }

    private static void pieces() {
        for (int kind = 0; kind < 7; kind++) {
            Script script = Script.of("Pieces", "the box has 4 columns and rows for kind 0, 2 for kind 1 and 3 for the")
                    .and("Pieces", "In state 0, a piece consists of these four cells of its box")
                    .and("Pieces", "after state 3 comes state 0").after("start(" + SEEDS[kind] + ")", "play 8d");
            int column = script.number("piece(2)");
            int row = script.number("piece(3)");
            for (int i = 0; i <= 4; i++) {
                script.due("piece(1)", "" + i % 4, "piece(2)", "" + column, "piece(3)", "" + row);
                String[] rows = BOXES[kind][i % 4].split("/");
                for (int r = 0; r < rows.length; r++) {
                    for (int c = 0; c < rows.length; c++) {
                        boolean due = rows[rows.length - 1 - r].charAt(c) == 'X';
                        script.due("covers(" + (column + c) + "," + (row + r) + ")", "" + due);
                    }
                }
                script.due("rotate(1)", "0");
            }
        }
    }

    private static void fitting() {
        String fits = "A piece fits if all its cells are empty cells of the field.";
        Script.of("Pieces", fits).due("3 shift(-1)", "true", "shift(-1)", "false", "7 shift(1)", "true",
                "shift(1)", "false", "20 fall()", "true", "fall()", "false", "covers(7,0)", "true");
        // Above the row 21 there are no cells: kick 3 would take the long kind there.
        Script.of("Pieces", fits).after("start(0)").after(HIGH).due("rotate(1)", "-1", "rotate(-1)", "-1",
                "piece(1)", "0", "piece(2)", "3", "piece(3)", "18");
        Script.of("Pieces", fits).after("start(8)").after(HIGH).after("play L").due("piece(3)", "20", "shift(1)", "true",
                "garbage(1,1)", "UnsupportedOperationException", "cell(1,19)", "7", "fall()", "false");
        // A single filled cell is in the way: kind 3 on the ground, kind 5 beside it.
        Script.of("Pieces", fits).after("drop()", "play R9d9d2d").due("cell(5,1)", "3", "shift(-1)", "true",
                "shift(-1)", "false", "piece(2)", "6");
    }

    private static void appearing() {
        String[] places = {"18", "20", "19", "19", "19", "19", "19"};
        for (int kind = 0; kind < 7; kind++) {
            String column = kind == 1 ? "4" : "3";
            Script.of("Appearing", "A piece appears in state 0, at column 4 and row 20 for kind 1, at column 3 and row 18")
                    .due("start(" + SEEDS[kind] + ")", "" + kind, "piece(1)", "0", "piece(2)", column,
                    "piece(3)", places[kind]).after("play cl2d", "hold()", "drop()", "hold()").due("piece(0)", "" + kind,
                    "piece(1)", "0", "piece(2)", column, "piece(3)", places[kind]);
        }
    }

    private static void appearingWithoutRoom() {
        String over = "If it does not fit there, the game is over, and there is no present piece; its kind has been taken";
        // Kind 5 leaves cells in row 20, where kind 6 appears; kind 4 is the next one then.
        Script.of("Appearing", over).after("start(2)", "garbage(4,0)", "garbage(4,0)", "garbage(4,0)", "garbage(4,0)",
                "garbage(3,0)").due("next(0)", "6", "next(1)", "4", "next(4)", "3", "drop()", "0", "isOver()", "true",
                "piece(0)", STATE, "covers(4,20)", STATE, "next(0)", "4", "next(3)", "3", "statistic(3)", "1",
                "cell(3,20)", "5", "cell(3,21)", "-1");
        // From the hold: kind 0 finds a cell of kind 1 in column 6; the bags keep kind 3.
        Script.of("Appearing", over).after("start(0)", "hold()", "garbage(4,9)", "garbage(4,9)", "garbage(4,9)",
                "garbage(4,9)", "garbage(3,9)", "play 2rx").due("isOver()", "false", "piece(0)", "5", "next(0)", "3",
                "hold()", "0", "isOver()", "true", "held()", "5", "next(0)", "3", "piece(0)", STATE);
        // From the bags by a hold: kind 5 finds a cell of kind 0 in column 3, where kind 1 did not reach.
        Script.of("Appearing", over).after("start(0)", "play Lx").after(HIGH).due("piece(0)", "1", "piece(8)", "0",
                "next(0)", "5", "hold()", "-1", "isOver()", "true", "held()", "1", "next(0)", "3", "piece(0)", STATE);
    }

    private static void bags() {
        String drawn = "becomes z times 1103515245 plus 12345, modulo 2147483648";
        String[] due = {"0 015326413045623451620", "1 354612060235144653012", "2147483647 462310535612402563140",
            "59 431065230125463145026"};
        for (String line : due) {
            String kinds = line.substring(line.indexOf(' ') + 1);
            Script script = Script.of("Bags", drawn).and("Bags", "The kinds of the pieces come from bags.")
                    .due("start(" + line.substring(0, line.indexOf(' ')) + ")", kinds.substring(0, 1));
            for (int i = 0; i < 16; i++) {
                script.due("piece(0)", kinds.substring(i, i + 1), "next(0)", kinds.substring(i + 1, i + 2),
                        "next(4)", kinds.substring(i + 5, i + 6)).after("placeBest()");
            }
        }
        // The seventh kind is the one that is left; the eighth comes from a new bag.
        Script.of("Bags", "When the bag is empty, the next one follows.").due("piece(0)", "3", "next(0)", "5",
                "next(1)", "4", "next(2)", "6", "next(3)", "1", "next(4)", "2", "drop()", "0", "next(4)", "0",
                "drop()", "0", "next(3)", "0", "next(4)", "6", "drop()", "0", "next(4)", "0");
        for (int seed = 0; seed < 40; seed++) {
            Script script = Script.of("Bags", "A new bag contains each kind once").after("start(" + seed + ")");
            for (int bag = 0; bag < 3; bag++) {
                int seen = 0;
                for (int i = 0; i < 7; i++) {
                    seen |= 1 << script.number("piece(0)");
                    script.after("placeBest()");
                }
                script.same("the kinds of a bag", seen, 127);
            }
        }
    }

    private static void shiftsAndSlides() {
        String shift = "A shift moves the present piece by one column if it fits there.";
        String slide = "A slide is as many shifts in one direction as are possible.";
        Script.of("Shifts, rotations and drops", shift).due("shift(-1)", "true", "piece(2)", "2", "piece(3)", "19",
                "2 shift(-1)", "true", "piece(2)", "0", "shift(-1)", "false", "piece(2)", "0", "7 shift(1)", "true",
                "piece(2)", "7", "shift(1)", "false", "piece(2)", "7", "piece(1)", "0");
        Script.of("Shifts, rotations and drops", slide).due("slide(-1)", "3", "piece(2)", "0", "slide(-1)", "0",
                "slide(1)", "7", "piece(2)", "7", "slide(1)", "0", "piece(3)", "19");
        // Upright, the long kind has an empty column of its box at the wall, and two at the other one.
        Script.of("Shifts, rotations and drops", slide).after("start(0)", "play c").due("slide(-1)", "5",
                "piece(2)", "-2", "covers(0,18)", "true", "slide(1)", "9", "piece(2)", "7", "covers(9,18)", "true");
        // A slide stops at filled cells, even if there is room behind them: kind 3 stands between.
        Script.of("Shifts, rotations and drops", slide).after("drop()", "play R9d9d2d").due("piece(2)", "7",
                "slide(-1)", "1", "piece(2)", "6", "slide(-1)", "0", "slide(1)", "1");
        Script.of("Shifts, rotations and drops", "A piece can fall if it fits one row lower.").due("piece(8)", "20",
                "20 fall()", "true", "piece(8)", "0", "fall()", "false", "drop()", "0", "piece(8)", "18",
                "18 fall()", "true", "fall()", "false", "piece(3)", "1", "slide(1)", "4", "piece(8)", "2",
                "fall()", "true");
    }

    private static void rotations() {
        String turn = "A rotation by 1 changes the state to the next one, a rotation by -1 to the one before.";
        Script.of("Shifts, rotations and drops", turn).due("rotate(1)", "0", "piece(1)", "1", "rotate(1)", "0",
                "piece(1)", "2", "rotate(1)", "0", "piece(1)", "3", "rotate(1)", "0", "piece(1)", "0",
                "rotate(-1)", "0", "piece(1)", "3", "rotate(-1)", "0", "piece(1)", "2", "rotate(-1)", "0",
                "piece(1)", "1", "rotate(-1)", "0", "piece(1)", "0");
        // Without a kick, nothing but the number of inputs changes: neither the counters nor the last move.
        Script.of("Shifts, rotations and drops", "if there is none, the rotation fails and nothing changes")
                .after("start(0)", "play cR9d9d", "garbage(4,9)", "tick(2)").due("piece(3)", "0", "rotate(1)", "-1",
                "rotate(-1)", "-1", "piece(1)", "1", "piece(2)", "7", "piece(3)", "0", "piece(4)", "0", "piece(5)", "2",
                "piece(6)", "0", "piece(7)", "4", "covers(9,3)", "true", "covers(9,0)", "true");
        Script.of("Shifts, rotations and drops", "if there is none, the rotation fails and nothing changes")
                .after("start(144)", "play cR2lx", "garbage(1,9)", "play 4rc9d9da").due("rotate(-1)", "1",
                "rotate(-1)", "-1", "drop()", "1", "latest(2)", "1");
        Script.of("Shifts, rotations and drops", "kind 1 has kick 0,0 alone").after("start(8)").after(HIGH).due(
                "rotate(1)", "0", "piece(1)", "1", "piece(2)", "4", "piece(3)", "20", "3 rotate(-1)", "0", "piece(1)", "2",
                "slide(-1)", "4", "rotate(1)", "0", "piece(2)", "0", "slide(1)", "8", "rotate(-1)", "0", "piece(2)", "8");
    }

    /** Each line: what leads there, the rotation, its kick, and by how much it moves the box. */
    private static final String[][] KICKS = {
        {"start(7); play 2d", "1", "0", "0", "0"}, {"start(7); play 2d", "-1", "0", "0", "0"},
        {"start(7); play 4rar", "1", "1", "-1", "0"}, {"start(7); play 3lcl", "-1", "1", "1", "0"},
        {"start(7); play 3lcl", "1", "2", "1", "0"}, {"start(7); play 4rar", "-1", "2", "-1", "0"},
        {"start(7); play 9d9d2d", "1", "3", "0", "1"}, {"start(7); play 9d9d2d", "-1", "3", "0", "1"},
        {"start(59); play aR4lx; play 9d9d", "1", "4", "-1", "1"},
        {"start(6); play cL3rx; play 9d9d", "-1", "4", "1", "1"},
        {"start(157); play Lrx; play 3l9d9dc", "1", "5", "1", "1"},
        {"start(6); play L3rx; play la9d9dd", "-1", "5", "-1", "1"},
        {"start(59); play aL6rx; play 4rc9d9d", "1", "6", "0", "-1"},
        {"start(101); play cL2rx; play 3la9d9d", "-1", "6", "0", "-1"},
        {"start(134); play cRx; play L5rx; play a9d9dda2r", "1", "7", "-2", "0"},
        {"start(208); play aR7lx; play aR6lx; play c9d9ddl", "-1", "7", "2", "0"},
        {"start(141); play 2cL2rx; play R4lx; play 2rc9d9dcdl", "1", "8", "2", "0"},
        {"start(134); play cRx; play L5rx; play a9d9dda2r", "-1", "8", "-2", "0"},
        {"start(0); play 2d", "1", "0", "0", "0"}, {"start(0); play 2d", "-1", "0", "0", "0"},
        {"start(0); play 3rcr", "1", "1", "-2", "0"}, {"start(0); play 3lcl", "-1", "1", "2", "0"},
        {"start(0); play 3lcl", "1", "2", "2", "0"}, {"start(0); play 3rcr", "-1", "2", "-2", "0"},
        {"start(0); play 9d9dd", "1", "3", "0", "2"}, {"start(0); play 9d9dd", "-1", "3", "0", "2"},
        {"start(17); play aR4lx; play R4lx; play 2la9d9d", "1", "4", "0", "-1"},
        {"start(17); play aR4lx; play R4lx; play 2la9d8d", "-1", "4", "0", "-1"},
    };

    private static void kicks() {
        for (String[] line : KICKS) {
            Script script = Script.of("Shifts, rotations and drops", "kicks 0 to 8 are: 0,0 -1,0 1,0 0,1 -1,1 1,1 0,-1")
                    .and("Shifts, rotations and drops", "the first of these kicks, column and row, with which it fits")
                    .and("Shifts, rotations and drops", "the columns of all kicks have the opposite sign")
                    .after(line[0].split("; "));
            int state = script.number("piece(1)");
            int column = script.number("piece(2)");
            int row = script.number("piece(3)");
            int direction = Integer.parseInt(line[1]);
            script.due("rotate(" + line[1] + ")", line[2], "piece(1)", "" + (state + direction + 4) % 4,
                    "piece(2)", "" + (column + Integer.parseInt(line[3])), "piece(3)", "" + (row + Integer.parseInt(line[4])));
        }
    }

    private static void ticks() {
        Script.of("Ticks", "The period is 11 minus the level.").and("Ticks", "if that is the period then, the piece falls")
                .due("tick(9)", "0", "piece(3)", "19", "piece(4)", "9", "tick(1)", "0", "piece(3)", "18", "piece(4)", "0",
                "tick(10)", "0", "piece(3)", "17", "piece(4)", "0", "tick(19)", "0", "piece(3)", "16", "piece(4)", "9");
        // All three counters are away from 0 when the piece is locked, and when it is put on hold.
        String[] counting = {"start(0)", "play c9d8d", "tick(9)", "garbage(1,9)", "tick(2)", "shift(1)", "tick(2)"};
        Script.of("Ticks", "a fall counter, a rest counter and a reset counter, all 0 when it appears").due("piece(4)", "0",
                "piece(5)", "0", "piece(6)", "0").after(counting).due("piece(4)", "9", "piece(5)", "2", "piece(6)", "1",
                "drop()", "0", "piece(4)", "0", "piece(5)", "0", "piece(6)", "0").after(counting).due("hold()", "-1",
                "piece(4)", "0", "piece(5)", "0", "piece(6)", "0");
        // While it rests, the fall counter stays; over the hole, the tenth tick that it can fall in lets it fall.
        Script.of("Ticks", "In a tick, if the piece can fall, its fall counter increases by 1").after("start(0)",
                "play c9d8d", "tick(9)", "garbage(1,6)", "tick(2)").due("piece(4)", "9", "piece(5)", "2",
                "shift(1)", "true", "piece(4)", "9", "tick(1)", "0", "piece(3)", "0", "piece(4)", "0");
    }

    private static void restCounters() {
        String rest = "if that is at least the lock delay then, it is locked";
        Script.of("Ticks", rest).after("play 9d9d2d").due("tick(4)", "0", "piece(5)", "4", "statistic(3)", "0",
                "tick(1)", "1", "statistic(3)", "1");
        Script.of("Ticks", rest).after("play 9d9d2d", "set(0,1)").due("tick(1)", "1");
        Script.of("Ticks", rest).after("play 9d9d2d", "set(0,30)").due("tick(29)", "0", "piece(5)", "29", "tick(1)", "1");
        // The delay has become less than the counter; the counter still grows before it is looked at.
        Script.of("Ticks", rest).after("play 9d9d2d", "set(0,30)", "tick(20)", "set(0,3)").due("piece(5)", "20",
                "statistic(3)", "0", "tick(1)", "1");
        Script.of("Ticks", rest).after("play 9d9d2d", "tick(4)", "set(0,6)").due("tick(1)", "0", "tick(1)", "1");
    }

    private static void resets() {
        String reset = "the rest counter becomes 0 and the reset counter increases by 1, if the reset counter is less than";
        String[][] inputs = {{"shift(1)", "true"}, {"slide(1)", "4"}, {"rotate(1)", "3"}, {"rotate(-1)", "3"}};
        for (String[] input : inputs) {
            Script.of("Ticks", reset).after("play 9d9d2d", "tick(4)").due(input[0], input[1], "piece(5)", "0",
                    "piece(6)", "1");
            // Not at the limit, be it 0 or reached, and not in the air.
            Script.of("Ticks", reset).after("play 9d9d2d", "set(1,0)", "tick(4)").due(input[0], input[1], "piece(5)", "4",
                    "piece(6)", "0");
            Script.of("Ticks", reset).after("play 9d9dd").due(input[0], input[1].equals("3") ? "0" : input[1],
                    "piece(5)", "0", "piece(6)", "0");
        }
        Script.of("Ticks", reset).after("play 9d9d2d", "set(1,2)", "tick(3)").due("shift(1)", "true", "piece(5)", "0",
                "piece(6)", "1", "tick(3)", "0", "shift(1)", "true", "piece(5)", "0", "piece(6)", "2", "tick(3)", "0",
                "shift(1)", "true", "piece(5)", "3", "piece(6)", "2", "tick(1)", "0", "shift(1)", "true", "tick(1)", "1");
        Script twenty = Script.of("Ticks", reset).after("play 9d9d2d", "set(1,20)");
        for (int i = 1; i <= 20; i++) {
            twenty.due("tick(1)", "0", i % 2 == 0 ? "shift(1)" : "shift(-1)", "true", "piece(5)", "0", "piece(6)", "" + i);
        }
        twenty.due("tick(1)", "0", "shift(1)", "true", "piece(5)", "1", "piece(6)", "20");
        Script.of("Ticks", "a slide by at least one column, or a rotation that succeeds").after("play Rl9d9d2d", "tick(2)")
                .due("slide(1)", "1", "piece(5)", "0", "piece(6)", "1");
        // Inputs that fail reset nothing: a shift, a slide by no column, a rotation.
        Script.of("Ticks", "a slide by at least one column, or a rotation that succeeds").after("play L9d9d2d", "tick(2)")
                .due("shift(-1)", "false", "piece(5)", "2", "piece(6)", "0", "slide(-1)", "0", "piece(5)", "2",
                "piece(6)", "0", "shift(1)", "true", "piece(5)", "0", "piece(6)", "1");
        Script.of("Ticks", "a slide by at least one column, or a rotation that succeeds").after("start(0)", "play cR9d9d",
                "garbage(4,9)", "tick(3)").due("rotate(1)", "-1", "piece(5)", "3", "piece(6)", "0");
        // What counts is whether it could fall before: here it could not after, then it could not before.
        Script.of("Ticks", "of a piece that could not fall before it").after("start(8)", "drop()", "play r9d9d",
                "tick(3)", "set(1,0)").due("2 shift(1)", "true", "piece(5)", "3", "piece(8)", "2", "set(1,8)", "0",
                "shift(-1)", "true", "piece(8)", "0", "piece(5)", "3", "piece(6)", "0", "shift(-1)", "true",
                "piece(5)", "0", "piece(6)", "1", "2 shift(1)", "true", "piece(8)", "2", "piece(6)", "3");
    }

    private static void lowerRows() {
        String lower = "When a piece gets to a lower row than ever before since it appeared";
        // Kind 5 rests where it appears, upon kind 3, and then falls beside it.
        String[] resting = {"drop()", "garbage(4,0)", "garbage(4,0)", "garbage(4,0)", "garbage(4,0)", "garbage(2,0)",
            "set(1,1)", "tick(3)"};
        Script.of("Ticks", lower).after(resting).due("piece(3)", "19", "piece(8)", "0", "slide(1)", "4", "piece(6)", "1",
                "piece(8)", "2", "fall()", "true", "piece(6)", "0", "piece(3)", "18");
        Script.of("Ticks", lower).after(resting).after("set(1,0)").due("slide(1)", "4", "piece(5)", "3", "tick(9)", "0",
                "piece(5)", "3", "tick(1)", "0", "piece(3)", "18", "piece(5)", "0");
        // Kicked up by a row and fallen again, it is not lower than before.
        Script.of("Ticks", lower).after("play 9d9d2d", "tick(2)", "rotate(1)", "rotate(1)", "rotate(1)").due(
                "piece(3)", "0", "piece(6)", "3", "rotate(1)", "0", "tick(10)", "0", "piece(3)", "-1", "piece(6)", "4",
                "piece(5)", "0", "tick(1)", "0", "piece(5)", "1");
        // A rotation by kick 6 takes a resting piece lower; the counters are 0 after it, not 1.
        Script.of("Ticks", "the rule on lower rows is applied after that").after("start(6)", "play cR6lx",
                "play 3la9d9dd", "tick(3)").due("piece(8)", "0", "piece(3)", "0", "rotate(1)", "6", "piece(3)", "-1",
                "piece(5)", "0", "piece(6)", "0");
        Script.of("Ticks", "the rule on lower rows is applied after that").after("start(6)", "play cR6lx",
                "play 3la9d9dd", "set(1,0)", "tick(3)").due("rotate(1)", "6", "piece(5)", "0", "piece(6)", "0");
    }

    private static void locking() {
        Script.of("Locking", "When a piece is locked, its cells become filled with its kind.").after("play 9d9d2d",
                "tick(4)").due("cell(3,0)", "-1", "cell(4,1)", "-1", "tick(1)", "1", "cell(3,0)", "3", "cell(4,0)", "3",
                "cell(4,1)", "3", "cell(5,1)", "3", "figure(0)", "4");
        String[] counts = {"1", "2", "3", "4"};
        for (String rows : counts) {
            // Upright in the open column, the long kind clears as many rows as there are; what is above comes down.
            int left = 4 - Integer.parseInt(rows);
            Script.of("Locking", "Then all rows that are filled completely are cleared: they vanish").after("start(0)",
                    "garbage(" + rows + ",9)", "play cR").due("drop()", rows, "figure(0)", "" + left,
                    "height(9)", "" + left, "cell(9,0)", left > 0 ? "0" : "-1", "cell(9,3)", "-1", "height(0)", "0");
        }
        // One empty cell keeps a row.
        Script.of("Locking", "Then all rows that are filled completely are cleared").after("start(0)", "garbage(1,9)",
                "play cRl").due("drop()", "0", "figure(0)", "13", "cell(9,0)", "-1");
        // The hold can be used again by the next piece, by drop, tick and placeBest.
        for (String lock : new String[] {"drop()", "placeBest()", "tick(200)"}) {
            Script.of("Locking", "and the hold can be used again").after("hold()").due("hold()",
                    "UnsupportedOperationException").after("play 9d9d", lock).due("hold()", "3");
        }
        Script.of("Locking", "otherwise the next piece of the bags appears").due("next(0)", "5", "hold()", "-1",
                "piece(0)", "5", "next(0)", "4", "drop()", "0", "piece(0)", "4", "held()", "3", "next(0)", "6");
    }

    private static void clearing() {
        String down = "they vanish, and the rows above them move down";
        // The rows 0 and 2 are cleared, row 1 between them is not.
        Script.of("Locking", down).after("start(63)", "play L2rx", "placeBest()", "play cL5rx", "placeBest()",
                "garbage(1,4)", "play aRx", "play a").due("cell(0,1)", "-1", "cell(1,1)", "3", "cell(9,2)", "5",
                "cell(9,4)", "5", "drop()", "2", "cell(0,0)", "-1", "cell(1,0)", "3", "cell(4,0)", "0",
                "cell(0,1)", "3", "cell(4,1)", "0", "cell(5,1)", "6", "cell(9,1)", "5", "cell(9,2)", "5",
                "cell(9,3)", "-1", "figure(0)", "13", "height(9)", "3");
        // The rows 0, 1 and 3 are cleared, row 2 is not.
        Script.of("Locking", down).after("start(212)", "garbage(1,3)", "play 2cLx", "placeBest()", "play 2cR3lx",
                "placeBest()", "garbage(1,3)", "play cL3r").due("figure(0)", "34", "drop()", "3", "figure(0)", "8",
                "cell(2,0)", "5", "cell(3,0)", "0", "cell(5,0)", "2", "cell(9,0)", "1", "cell(0,0)", "-1",
                "cell(7,1)", "4", "cell(8,1)", "4", "cell(8,2)", "4", "cell(3,1)", "-1", "height(3)", "1");
        // The highest row comes down, too, and is empty then.
        Script.of("Locking", down).after("start(37)", "play Lx", "play Rx", "garbage(4,5)", "garbage(4,5)",
                "garbage(4,5)", "garbage(4,5)", "garbage(4,5)").due("cell(0,20)", "5", "cell(0,21)", "5",
                "cell(8,21)", "2", "piece(0)", "0", "drop()", "1", "cell(0,20)", "5", "cell(1,20)", "-1",
                "cell(3,20)", "-1", "cell(8,20)", "2", "cell(0,21)", "-1", "cell(8,21)", "-1", "cell(0,19)", "7");
    }

    private static void endByLocking() {
        String end = "if all cells of the piece were in the rows 20 and 21, the game is over, and there is no present piece";
        // Beside the place where pieces appear, so that the next one would fit.
        Script.of("Locking", end).after("start(8)").after(HIGH).after("slide(1)").due("next(0)", "3", "drop()", "0",
                "isOver()", "true", "next(0)", "3", "cell(8,20)", "1", "cell(9,21)", "1", "statistic(3)", "1",
                "piece(0)", STATE, "figure(0)", "184");
        Script.of("Locking", end).after("start(8)").after(HIGH).after("slide(-1)").due("covers(0,20)", "true", "drop()", "0",
                "isOver()", "true", "next(0)", "3", "cell(0,20)", "1", "cell(0,21)", "1");
        // One cell in row 19 is enough to go on.
        Script.of("Locking", end).after("start(3)", "garbage(4,0)", "garbage(4,0)", "garbage(4,0)", "garbage(4,0)",
                "garbage(3,0)", "play cR").due("piece(8)", "0", "covers(8,19)", "true", "covers(8,21)", "true",
                "drop()", "0", "isOver()", "false", "piece(0)", "4");
        Script.of("Locking", end).after("start(8)", "garbage(4,0)", "garbage(4,0)", "garbage(4,0)", "garbage(4,0)",
                "garbage(3,0)", "slide(1)").due("drop()", "0", "cell(8,19)", "1", "cell(9,20)", "1", "isOver()", "false");
        // Also if the row is cleared in which they were.
        Script.of("Locking", end).after("start(37)", "play Lx", "play Rx", "garbage(4,5)", "garbage(4,5)",
                "garbage(4,5)", "garbage(4,5)", "garbage(4,5)").due("drop()", "1", "isOver()", "true",
                "statistic(2)", "1", "clears(1,0)", "1", "next(0)", "3");
        // By a tick, by placeBest and by a text it is the same.
        for (String lock : new String[] {"tick(200)", "placeBest()"}) {
            Script.of("Locking", end).after("start(8)").after(HIGH).after(lock).due("isOver()", "true", "next(0)", "3");
        }
    }

    private static void lastMoves() {
        String last = "The last move of a piece is the latest one of its shifts and rotations that succeeded";
        // Upright at the wall upon kind 3, three corners of kind 2 are filled; what matters is how it got there.
        String[][] ways = {
            {"1", "play 3l9d9d; rotate(1)"}, {"0", "play cL"}, {"0", "play cL9d9d"}, {"0", "play cL9d8d; tick(10)"},
            {"1", "play 3l9d9d; rotate(1); shift(-1)"}, {"1", "play 3l9d9d; rotate(1); slide(-1)"},
            {"1", "play 3l9d9d; rotate(1); fall()"}, {"1", "play 3l9d9d; rotate(1); tick(4)"},
            {"1", "play 3l9d9d; rotate(1); tick(5)"}, {"1", "play 3l9d9d; rotate(1); slide(1)"},
            {"0", "play 3l9d9d; rotate(1); hold(); drop(); drop()"},
        };
        for (String[] way : ways) {
            Script script = Script.of("Spins", last).and("Spins", "falls, also those by ticks and drops by at least one row")
                    .after("start(21)", "play Lx").after(way[1].split("; "));
            if (script.number("statistic(3)") == 1) {
                script.after("drop()");
            }
            script.due("latest(2)", way[0], "latest(3)", way[0].equals("1") ? "100" : "0");
        }
        // Two rows above such a place: however it gets down, the last move is a fall.
        for (String way : new String[] {"piece(8)", "fall()", "fall(); fall()", "tick(10)", "tick(20)", "tick(11); fall()",
            "shift(-1); fall(); fall()"}) {
            Script.of("Spins", "falls, also those by ticks and drops by at least one row").after("start(198)",
                    "play aR3lx", "play aRx", "play 3r9d7d", "rotate(1)").due("piece(8)", "2").after(way.split("; "))
                    .after("drop()").due("latest(0)", "2", "latest(2)", "0", "latest(3)", "0");
        }
        // Ticks in which it could fall but does not are no falls; garbage comes up to it then.
        Script.of("Spins", "falls, also those by ticks and drops by at least one row").after("start(254)", "play Lrx",
                "play R2lx", "play a9d7d", "rotate(1)").due("piece(8)", "2", "tick(9)", "0", "piece(4)", "9", "garbage(4,7)",
                "44", "piece(8)", "0", "drop()", "0", "latest(2)", "2", "latest(3)", "400");
        // After rotations that fail, the one before is the last move.
        Script.of("Spins", last).after("start(21)", "play aL2rx", "garbage(4,0)", "play 3la9d6dc").due("rotate(1)", "1",
                "rotate(1)", "-1", "shift(-1)", "false", "slide(-1)", "0", "fall()", "false", "tick(2)", "0",
                "drop()", "1", "latest(2)", "1", "latest(3)", "200");
        // One row above it, or one column beside it.
        Script.of("Spins", "falls, also those by ticks and drops by at least one row").after("start(229)", "play Lx",
                "play l9d6d", "rotate(1)", "garbage(4,3)").due("piece(8)", "1").after("drop()").due("latest(0)", "2",
                "latest(2)", "0");
        Script.of("Spins", "slides by at least one column").after("start(6)", "play aR4lx", "play cLx", "play la9d9dd",
                "rotate(1)").due("slide(-1)", "1", "piece(8)", "0").after("drop()").due("latest(0)", "2", "latest(2)", "0");
        // A shift or a slide that succeeds, into the place where three corners are filled.
        for (String[] way : new String[][] {{"slide(1)", "2"}, {"2 shift(1)", "true"}}) {
            Script.of("Spins", "slides by at least one column").after("start(34)", "garbage(1,3)", "play 3rx",
                    "play cl9d9dd", "rotate(-1)").due(way[0], way[1], "piece(8)", "0", "drop()", "0", "latest(2)", "0");
        }
    }

    private static void corners() {
        // With two corners, no spin; with three, there is one.
        String[] two = {"start(3); garbage(2,5); play 9d9da; rotate(1)", "start(3); garbage(2,5); play 9d9d; rotate(1)",
            "start(3); garbage(2,5); play 9d9dc; rotate(1)", "start(3); garbage(2,5); play 9d9d; rotate(-1)",
            "start(133); play L2rx; play aL2rx; play 3la9d9d; rotate(1)",
            "start(21); play aL2rx; play 3la9d9ddc; rotate(1)", "start(34); play cR2lx; play 4rc9d9dda; rotate(-1)"};
        for (String way : two) {
            Script.of("Spins", "If fewer than three of them are filled, there is no spin.").after(way.split("; "))
                    .due("piece(0)", "2", "piece(8)", "0").after("drop()").due("latest(0)", "2", "latest(2)", "0");
        }
        // The other kinds do not spin, though three corners of their boxes are filled.
        String[] others = {"start(62); play cRx; play 4r9d8d; rotate(-1)", "start(3); play aLx; play 3l9d8d; rotate(1)",
            "start(1); play 2cLx; play 3l9d9d; rotate(1)", "start(69); play Rx; play 4r9d9d; rotate(-1)"};
        for (int i = 0; i < others.length; i++) {
            Script.of("Spins", "In all other cases there is no spin.").and("Spins", "When a piece of kind 2 is locked")
                    .after(others[i].split("; ")).due("piece(0)", "" + (3 + i), "piece(8)", "0", "drop()", "0",
                    "latest(2)", "0", "latest(3)", "0", "clears(0,0)", "2");
        }
        // Three corners without any move, and with a rotation of the piece before.
        Script.of("Spins", "In all other cases there is no spin.").after("start(34)", "play 2r9d9d2d", "rotate(1)",
                "rotate(1)", "drop()").after("garbage(4,9)", "garbage(4,9)", "garbage(4,9)", "garbage(4,9)",
                "garbage(4,9)").due("piece(0)", "2", "piece(8)", "0", "drop()", "0", "latest(2)", "0");
    }

    private static void cornersOutside() {
        String outside = "cells outside of the field count as filled";
        // Left of the field, right of it, and below it, with one filled corner each.
        Script.of("Spins", outside).after("start(21)", "play Lx", "play 3l9d9d", "rotate(1)").due("piece(2)", "-1",
                "drop()", "0", "latest(2)", "1");
        Script.of("Spins", outside).after("start(7)", "play Rlx", "play 4r9d9d", "rotate(-1)").due("piece(2)", "8",
                "drop()", "0", "latest(2)", "1");
        Script.of("Spins", outside).after("start(21)", "play aL2rx", "play 3la9d9dd", "rotate(1)").due("piece(3)", "-1",
                "drop()", "0", "latest(2)", "2", "latest(3)", "400");
        // Above it: the bar is in row 21, two corners are in row 22, and one is a cell of kind 0 in row 20.
        Script.of("Spins", outside).after("start(25)", "play Lx", "rotate(1)", "garbage(4,4)", "garbage(4,4)",
                "garbage(4,4)", "garbage(4,4)", "garbage(4,4)").due("rotate(1)", "3", "piece(3)", "20", "piece(8)", "0",
                "cell(3,20)", "0", "cell(5,20)", "-1", "drop()", "0", "latest(2)", "1", "latest(3)", "100");
    }

    /**
     * Each line: what leads to a rotation of kind 2, which corners are filled then, the two front ones first and then on
     * round the box, and the spin.
     */
    private static final String[][] CORNERS = {
        {"start(34); play aR7lx; garbage(2,3); play 9d9da; rotate(1)", "X.XX", "1"},
        {"start(21); garbage(1,4); play cL5rx; play a9d9dd; rotate(1)", ".XXX", "1"},
        {"start(254); play cL8rx; play cL5rx; play 2r9d8da; rotate(1); garbage(3,8)", "XX.X", "2"},
        {"start(124); play cL4rx; play 2cL8rx; play 2cL2rx; play r9d8da; rotate(1); garbage(3,5)", "XXX.", "2"},
        {"start(90); play aLrx; play 3l9d8d; rotate(1); garbage(2,8)", "X.XX", "1"},
        {"start(21); play Lx; play 3l9d9d; rotate(1)", ".XXX", "1"},
        {"start(114); garbage(2,6); play 2cRx; play r9d9d; rotate(1)", "XXX.", "2"},
        {"start(134); play aR4lx; play 2cL2rx; play lc9d5d; rotate(1); garbage(4,3)", "X.XX", "1"},
        {"start(219); play aL6rx; play 2cL8rx; play 4rc9d5d; rotate(1); garbage(4,5)", ".XXX", "1"},
        {"start(114); garbage(2,6); play 2cRx; play r9d9dc; rotate(1)", "XX.X", "2"},
        {"start(34); play aR7lx; garbage(2,3); play 9d9dc; rotate(1)", "XXX.", "2"},
        {"start(64); play Rx; play 4r9d9d; rotate(-1)", "X.XX", "1"},
        {"start(77); play cL7rx; play 4r9d8d; rotate(-1); garbage(2,7)", ".XXX", "1"},
        {"start(34); play aR7lx; garbage(2,3); play 9d9d; rotate(-1)", "XX.X", "2"},
        {"start(239); play Lrx; play c9d7d; rotate(1); garbage(4,4)", "XXX.", "2"},
        {"start(254); play Lrx; play R2lx; play a9d7d; rotate(1); garbage(4,7)", "XXXX", "2"},
    };

    /** The same with the kick of the rotation before the spin: 3 is less than 4, and 4 is not. */
    private static final String[][] KICKED_CORNERS = {
        {"start(34); play R5lx; play 2l9d9dad; rotate(1); garbage(2,1)", ".XXX", "3", "1"},
        {"start(178); play R4lx; play aR5lx; play 2cL4rx; play r9d6d; rotate(1); garbage(4,8)", "X.XX", "3", "1"},
        {"start(34); play R5lx; play 2l9d9dcld; rotate(-1); garbage(2,1)", ".XXX", "4", "2"},
        {"start(74); play L5rx; play 3r9d9dard; rotate(1); garbage(2,3)", "X.XX", "4", "2"},
        {"start(229); play aR6lx; play 3la9d9ddc; rotate(1); garbage(1,0)", ".XXX", "4", "2"},
        {"start(242); play cL6rx; play 4rc9d9dda; rotate(-1); garbage(1,9)", "X.XX", "4", "2"},
        {"start(74); play aL2rx; play 3la9d9dd; rotate(1)", ".XXX", "6", "2"},
    };

    private static void cornersByState() {
        String fronts = "The front corners are 0,2 and 2,2 of the box in state 0, 2,2 and 2,0 in state 1, 2,0 and 0,0 in";
        for (String[] line : CORNERS) {
            Script script = Script.of("Spins", fronts).and("Spins", "the four corner cells of its box are looked at")
                    .after(line[0].split("; "));
            script.same("the corners", filledCorners(script), line[1]);
            script.due("piece(8)", "0").after("drop()").due("latest(2)", line[2]);
        }
        for (String[] line : KICKED_CORNERS) {
            int last = line[0].indexOf("; rotate(");
            int end = line[0].indexOf(')', last);
            Script script = Script.of("Spins", "or the kick of that rotation was at least 4, and a small spin if not")
                    .after(line[0].substring(0, last).split("; "))
                    .due(line[0].substring(last + 2, end + 1), line[2]);
            if (end + 1 < line[0].length()) {
                script.after(line[0].substring(end + 3));
            }
            script.same("the corners", filledCorners(script), line[1]);
            script.due("piece(8)", "0").after("drop()").due("latest(2)", line[3]);
        }
    }

    private static String filledCorners(Script script) {
        int[][] corners = {{0, 2}, {2, 2}, {2, 0}, {0, 0}};
        StringBuilder filled = new StringBuilder();
        int state = script.number("piece(1)");
        for (int i = 0; i < 4; i++) {
            int column = script.number("piece(2)") + corners[(state + i) % 4][0];
            int row = script.number("piece(3)") + corners[(state + i) % 4][1];
            filled.append("-1".equals(script.answer("cell(" + column + "," + row + ")")) ? '.' : 'X');
        }
        return filled.toString();
    }

    /** Each line: what leads to a piece that is about to be dropped, the rows, the spin, and the points. */
    private static final String[][] POINTS = {
        {"start(1)", "0", "0", "0"},
        {"start(0); garbage(1,9); play cR", "1", "0", "100"},
        {"start(0); garbage(2,9); play cR", "2", "0", "300"},
        {"start(0); garbage(3,9); play cR", "3", "0", "500"},
        {"start(0); play hxh; garbage(4,9); play cR", "4", "0", "800"},
        {"start(21); play Lx; play 3l9d9d; rotate(1)", "0", "1", "100"},
        {"start(21); play aL2rx; garbage(4,0); play 3la9d6dc; rotate(1)", "1", "1", "200"},
        {"start(3); hold(); play 4rx; play 9d9d2drx; play 4lx; hold(); play 2l9d7d; rotate(1); garbage(1,2); garbage(3,5)",
            "2", "1", "400"},
        {"start(21); play aL2rx; play 3la9d9dd; rotate(1)", "0", "2", "400"},
        {"start(21); garbage(1,8); play 2rx; play cR9d9dd; rotate(1)", "1", "2", "800"},
        {"start(8); garbage(1,8); play Lx2rxlx; play cR9d9dd; rotate(1)", "2", "2", "1200"},
        {"start(3); hold(); play 3lax; play x; play 4rx; play x; play r9d8dcr2dcx; hold(); play 2l9d7d; rotate(-1); "
            + "garbage(1,2); garbage(3,5)", "3", "2", "1600"},
    };

    private static void points() {
        for (String[] line : POINTS) {
            String sort = "clears(" + line[1] + "," + line[2] + ")";
            Script script = Script.of("Score", "without a spin 0, 100, 300, 500, 800 for n from 0 to 4; with a small spin")
                    .after(line[0].split("; "));
            int score = script.number("statistic(0)") + 2 * script.number("piece(8)");
            int before = script.number(sort);
            script.due("drop()", line[1], "latest(1)", line[1], "latest(2)", line[2], "latest(3)", line[3],
                    "latest(6)", "0", "statistic(0)", "" + (score + Integer.parseInt(line[3])), sort, "" + (before + 1));
        }
    }

    private static void hardClears() {
        String twice = "are multiplied by 3 and divided by 2 if the latest clear before it in this game was hard, too";
        // Four rows twice, with nothing between, then with locks between that clear nothing.
        Script.of("Score", twice).and("Score", "is hard if n is 4 or there is a spin").after("start(13)", "play Lxx",
                "play Lxx", "play Lxx", "garbage(4,9)", "garbage(4,9)", "play cRx").due("latest(3)", "800",
                "latest(6)", "0").after("play cRx").due("latest(3)", "1250", "latest(6)", "1");
        Script.of("In doubt", "Locks without a clear do not matter for hard clears").and("Score", twice).after("start(0)",
                "garbage(4,9)", "play cRx", "play LxLxLxLxLxLxLxLx", "garbage(4,9)").due("piece(0)", "0").after("play c")
                .due("slide(1)", "4", "drop()", "4", "latest(3)", "1200", "latest(6)", "1");
        // One row by kind 2 between them, without a spin, is a clear that is not hard.
        Script.of("Score", twice).after("start(0)", "garbage(4,9)", "play cRx", "play LxLxLx", "garbage(1,9)").due(
                "latest(3)", "0").after("play aRx").due("latest(1)", "1", "latest(3)", "100", "latest(6)", "0")
                .after("play LxLxLxLx", "garbage(4,5)", "play cx").due("latest(1)", "4", "latest(3)", "800",
                "latest(6)", "0");
        // The clears of the game before do not count.
        Script.of("Score", twice).after("start(0)", "garbage(4,9)", "play cRx", "start(0)", "garbage(4,9)", "play cRx").due(
                "latest(3)", "1800", "latest(6)", "0");
        // Small and full spins with a row are hard, after four rows and before them.
        Script.of("Score", "is hard if n is 4 or there is a spin").after("start(25)", "garbage(4,9)", "play cRx",
                "garbage(1,9)", "play R9d9dd", "rotate(-1)").due("drop()", "1", "latest(2)", "1", "latest(3)", "350",
                "latest(6)", "1");
        Script.of("Score", "is hard if n is 4 or there is a spin").after("start(21)", "garbage(1,8)", "play 2rx",
                "play cR9d9dd", "rotate(1)", "drop()").due("latest(1)", "1", "latest(2)", "2", "latest(6)", "0")
                .after("play LxLxLx", "garbage(4,4)", "play clx").due("latest(1)", "4", "latest(3)", "1200", "latest(6)", "1");
        // A spin without a row at level 2 gives 100 points, times 2.
        Script.of("In doubt", "as are points without a clear").and("Promise 22", "3 for the points times the level").after(
                "start(45)", "garbage(4,6)", "garbage(4,6)", "placeBest()", "placeBest()", "placeBest()", "placeBest()",
                "placeBest()", "placeBest()", "garbage(4,6)", "placeBest()", "placeBest()", "play 4r9d7d").due("statistic(1)",
                "2", "rotate(-1)", "1", "drop()", "0", "latest(2)", "1", "latest(3)", "200");
        // A spin without a row is no clear: it is not multiplied, and the next clear is not either.
        Script.of("Score", "A clear, that is n greater than 0").after("start(313)", "garbage(4,9)", "play cRx", "play 3rx",
                "play R9d9d", "rotate(-1)").due("drop()", "0", "latest(2)", "1", "latest(3)", "100", "latest(6)", "0");
        Script.of("Score", "A clear, that is n greater than 0").after("start(78)", "play 3rx", "play R9d9d", "rotate(-1)",
                "drop()").due("latest(2)", "1").after("garbage(4,0)", "play cLx").due("latest(1)", "4",
                "latest(3)", "800", "latest(6)", "0");
    }

    private static void combos() {
        String combo = "The combo is -1 at first; it increases by 1 with each clear and becomes -1 if a piece is locked";
        Script.of("Score", combo).due("statistic(4)", "-1", "drop()", "0", "statistic(4)", "-1", "latest(3)", "0",
                "start(0)", "0", "garbage(1,9)", "9").after("play cRx").due("statistic(4)", "0", "latest(3)", "100",
                "drop()", "0", "statistic(4)", "-1", "statistic(5)", "0");
        // Clears in a row: 0, 1, 2 and so on, times 50.
        Script script = Script.of("Score", combo).after("start(45)", "garbage(3,8)", "garbage(3,8)");
        int due = -1;
        int greatest = -1;
        int[] points = {0, 100, 300, 500};
        for (int i = 0; i < 25; i++) {
            if (i % 4 == 0) {
                script.after("garbage(1,8)");
            }
            int level = script.number("statistic(1)");
            int rows = script.number("placeBest()");
            due = rows > 0 ? due + 1 : -1;
            greatest = Math.max(greatest, due);
            int won = rows > 0 ? points[rows] + 50 * due : 0;
            script.due("statistic(4)", "" + due, "statistic(5)", "" + greatest, "latest(3)", "" + won * level);
        }
        script.same("the greatest combo", greatest, 4);
        String empty = "If the field is empty after a clear, 1000 is added.";
        Script.of("Score", empty).after("start(0)", "garbage(4,9)", "play cRx").due("figure(0)", "0", "latest(3)", "1800");
        // With one cell more above the rows, it is not empty.
        Script.of("Score", empty).after("start(0)", "play hxh", "garbage(4,9)", "play cRx").due("figure(0)", "4",
                "latest(1)", "4", "latest(3)", "800");
        // Nine pieces fill nine columns: four rows after four rows, and the field is empty again.
        Script.of("Score", empty).and("In doubt", "50 times the combo and the 1000 are not multiplied by 3 / 2")
                .after("start(10)", "garbage(4,9)", "play cRx", "play hLx", "play aL4rx", "play hL2rx", "play hccLrx",
                "play L6rx", "play hcL7rx", "play ccLx", "play hcL6rx", "play ccL3rx", "play hcR").due("figure(0)", "36",
                "drop()", "4", "figure(0)", "0", "latest(6)", "1", "latest(3)", "2200", "statistic(4)", "0");
    }

    /** A long game through all levels; what garbage and placeBest do in it is compared with the rules. */
    private static void levels() {
        Script script = Script.of("Score", "The level is 1 plus the number of cleared rows divided by 10, rounded down, but")
                .and("Score", "The points are multiplied by the level before the clear and added to the score.")
                .and("Ticks", "The period is 11 minus the level.").after("start(192)");
        int rows = 0;
        int combo = -1;
        int seen = 1;
        boolean wasHard = false;
        int[] points = {0, 100, 300, 500, 800};
        for (int i = 0; i < 200 && rows < 110; i++) {
            if (script.number("figure(3)") <= 4) {
                script.after("garbage(4,9)");
                continue;
            }
            int level = Math.min(10, 1 + rows / 10);
            int cleared = script.number("placeBest()");
            combo = cleared > 0 ? combo + 1 : -1;
            rows += cleared;
            if (cleared > 0) {
                int won = points[cleared] * (cleared == 4 && wasHard ? 3 : 2) / 2 + 50 * combo;
                script.due("latest(3)", "" + won * level);
                wasHard = cleared == 4;
            }
            int reached = Math.min(10, 1 + rows / 10);
            if (reached > seen) {
                seen = reached;
                lookAtLevel(script, reached);
            }
        }
        script.due("statistic(2)", "" + rows, "statistic(1)", "10");
        lookAtLevel(script, 10);
        script.same("rows for a level 12 without the limit", rows >= 110, true);
        // Falls and drops give the same points at each level.
        int score = script.number("statistic(0)");
        int depth = script.number("piece(8)");
        Document.cite("In doubt", "as are points without a clear; points of falls and drops are not");
        script.due("fall()", "true", "statistic(0)", "" + (score + 1)).after("drop()").due("statistic(0)",
                "" + (score + 1 + 2 * (depth - 1) + script.number("latest(3)")));
    }

    /** A new piece falls with the tick that completes the period, and not before. */
    private static void lookAtLevel(Script script, int level) {
        int row = script.number("piece(3)");
        script.due("statistic(1)", "" + level);
        if (level < 10) {
            script.due("tick(" + (10 - level) + ")", "0", "piece(3)", "" + row);
        }
        script.due("tick(1)", "0", "piece(3)", "" + (row - 1));
    }

    private static void finesse() {
        Script.of("Finesse", "Shifts, slides and rotations of a piece are its inputs, whether they succeed or not.").due(
                "3 shift(-1)", "true", "piece(7)", "3", "shift(-1)", "false", "piece(7)", "4", "slide(-1)", "0",
                "piece(7)", "5", "slide(1)", "7", "piece(7)", "6", "rotate(1)", "0", "rotate(-1)", "0", "piece(7)", "8",
                "fall()", "true", "tick(3)", "0", "piece(7)", "8", "drop()", "0", "latest(4)", "8", "piece(7)", "0",
                "statistic(7)", "8", "shift(1)", "true", "hold()", "-1", "piece(7)", "0", "drop()", "0", "latest(4)", "0",
                "statistic(7)", "8");
        Script.of("Finesse", "Shifts, slides and rotations of a piece are its inputs, whether they succeed or not.")
                .after("start(0)", "play cR9d9d", "garbage(4,9)").due("piece(7)", "2", "rotate(1)", "-1", "piece(7)", "3",
                "rotate(-1)", "-1", "piece(7)", "4", "drop()", "4", "latest(4)", "4");
        String least = "to cells that differ from these by a number of rows only";
        // Upright in column 4 by one rotation to the other side, lying by none at all.
        Script.of("Finesse", least).and("In doubt", "those by any state with its cells, and by cells, not by the box").after(
                "start(0)", "play clx").due("latest(4)", "2", "latest(5)", "1", "statistic(6)", "1").after("start(0)",
                "play ccx").due("latest(4)", "2", "latest(5)", "0", "statistic(6)", "2").after("start(8)", "play cccrx").due(
                "latest(5)", "1", "statistic(6)", "3").after("start(1)", "play ccrx").due("latest(5)", "1").after("start(4)",
                "play arx").due("latest(4)", "2", "latest(5)", "1");
        // What stands in the field does not matter, nor how high the piece is.
        Script.of("Finesse", "in a field without any filled cells, floor and ceiling").after("drop()", "drop()", "drop()",
                "drop()", "garbage(4,0)", "garbage(4,0)", "play rx").due("latest(4)", "1", "latest(5)", "1");
        // By garbage and placeBest, a piece gets further than its inputs: that is no fault, and takes none away.
        Script.of("Finesse", "minus the least inputs is its number of faults, or 0 if that is negative").after("start(0)",
                "garbage(4,9)").due("placeBest()", "4", "latest(4)", "0", "latest(5)", "2", "statistic(6)", "0",
                "meanFaults()", "0.0").after("play lrx").due("statistic(6)", "2", "meanFaults()", "1.0").after("start(0)",
                "play lrx").due("statistic(6)", "2").after("garbage(4,0)", "placeBest()").due("latest(4)", "0",
                "statistic(6)", "2");
    }

    private static void placements() {
        String placement = "and which it can reach by shifts, rotations and falls by one row in any order, without locking";
        // The long kind gets under the edge of kind 3 from the right, and is asked on the ground, about to be locked.
        Script edge = Script.of("Placements", placement).after("start(11)", "drop()", "play R9d9d", "set(0,1)");
        boolean found = false;
        int count = edge.number("placements()");
        for (int rank = 0; rank < count; rank++) {
            found |= edge.number("placement(" + rank + ",4)") == 5 && edge.number("placement(" + rank + ",7)") == 8;
        }
        edge.same("a place under the edge", found, true);
        edge.due("piece(3)", "0", "placements()", "" + count, "piece(5)", "0", "isOver()", "false");
        // From the ground it does not get up again, but for kicks; in a shaft there is the one place where it is.
        Script.of("Placements", placement).after("start(0)").due("placements()", "17").after("play cR9d9d", "garbage(4,9)")
                .due("placements()", "1", "placement(0,4)", "9", "placement(0,7)", "39", "placement(0,0)", "4");
        // Over a pit of two columns, kind 1 has the pit and what is left of it, for the pit is no wider than it is.
        Script.of("Placements", placement).after("start(0)", "play Lx", "play hL6rx", "play h9d9dd").due("piece(0)", "1",
                "piece(8)", "1", "placements()", "5", "placement(0,4)", "4", "fall()", "true", "placements()", "1");
        // A rotation in its place, a shift and a rotation, and so on: each order leads to places of its own.
        Script.of("Placements", placement).after("start(113)", "play aRx", "garbage(1,2)", "play cLrx").due("placements()",
                "38");
        // Where it can fall, there is no placement: all of kind 1 are on the ground.
        Script ground = Script.of("Placements", "a set of four cells in which it cannot fall").after("start(8)")
                .due("placements()", "9");
        for (int rank = 0; rank < 9; rank++) {
            ground.same("a cell in row 0", ground.number("placement(" + rank + ",4)") < 9, true);
        }
        // The states 0 and 2 of the long kind and of the kinds 3 and 4 have the same cells, all four of kind 1 have.
        String[] counts = {"17", "9", "34", "17", "17", "34", "34"};
        for (int kind = 0; kind < 7; kind++) {
            Script.of("In doubt", "placements with the same cells count once").after("start(" + SEEDS[kind] + ")")
                    .due("placements()", counts[kind]);
        }
        // What is told of the best placement is what is found after locking there.
        for (int seed = 0; seed < 6; seed++) {
            Script script = Script.of("Placements", "Its figures are those of the field after locking there and clearing")
                    .after("start(" + seed + ")", "garbage(2,3)", "garbage(2,8)");
            for (int i = 0; i < 12; i++) {
                String[] told = new String[4];
                for (int what = 0; what < 4; what++) {
                    told[what] = script.answer("placement(0," + what + ")");
                }
                int last = script.number("placement(0,7)");
                script.due("placeBest()", told[0], "figure(1)", told[1], "figure(2)", told[2], "figure(4)", told[3]);
                if (told[0].equals("0")) {
                    script.due("cell(" + last % 10 + "," + last / 10 + ")", script.answer("latest(0)"));
                }
            }
        }
    }

    /** Reads all placements: each is worse than the one before by the first number in which they differ. */
    private static void ranking() {
        String[] ways = {"start(2)", "start(3); garbage(2,4)", "start(0); garbage(4,9)", "start(1); drop(); garbage(1,7)",
            "start(59); play aR4lx", "start(7); play LxRx; garbage(1,4); garbage(1,5)"};
        for (String way : ways) {
            Script script = Script.of("Placements", "Placements are ranked by more rows cleared, then by fewer holes, then by")
                    .after(way.split("; "));
            int count = script.number("placements()");
            int[] before = null;
            for (int rank = 0; rank < count; rank++) {
                int[] told = new int[8];
                for (int what = 0; what < 8; what++) {
                    told[what] = script.number("placement(" + rank + "," + what + ")");
                }
                told[0] = -told[0];
                if (before != null) {
                    script.same("rank " + rank + " after the one before", Arrays.compare(before, told) < 0, true);
                }
                before = told;
            }
            script.due("placement(" + count + ",0)", "NoSuchElementException");
        }
    }
}
