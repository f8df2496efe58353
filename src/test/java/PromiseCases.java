/** Tests of the promises 1 to 33 at their boundaries, but for the refused calls, which are in RefusalCases. */
final class PromiseCases {
    private static final String STATE = "IllegalStateException";
    private static final String ARGUMENT = "IllegalArgumentException";
    private static final String INDEX = "IndexOutOfBoundsException";
    private static final String NONE = "NoSuchElementException";
    private static final String UNSUPPORTED = "UnsupportedOperationException";

    private static final String[] TO_THE_TOP = {"garbage(4,0)", "garbage(4,0)", "garbage(4,0)", "garbage(4,0)",
        "garbage(4,0)"};

    /** The same with the highest two holes in different columns. */
    private static final String[] CLOSED = {"garbage(1,0)", "garbage(1,5)", "garbage(4,0)", "garbage(4,0)", "garbage(4,0)",
        "garbage(4,0)", "garbage(2,0)"};

    private PromiseCases() {
    }

    static void all() {
        newObject();
        start();
        set();
        isOver();
        piece();
        next();
        cellAndCovers();
        shiftAndSlide();
        rotate();
        fall();
        drop();
        hold();
        held();
        tick();
        garbage();
        garbageAndRoom();
        figure();
        wells();
        height();
        statistic();
        clears();
        latest();
        meanFaults();
        leastInputs();
        placements();
        placeBest();
        append();
        play();
        faultPosition();
        undo();
        save();
        restore();
    }

    private static void newObject() {
        String created = "Creates a game with an empty field and the seed 1, in which the first piece has appeared.";
        RefusalCases.same(Script.of("Promise 1", created), new String[0], new String[] {"start(1)"});
        Script.of("Promise 1", created).due("isOver()", "false", "piece(0)", "3", "next(0)", "5", "next(4)", "2",
                "figure(0)", "0", "figure(3)", "0", "held()", NONE, "statistic(0)", "0", "statistic(1)", "1",
                "statistic(3)", "0", "statistic(5)", "-1", "latest(0)", NONE, "undo()", UNSUPPORTED, "restore()", NONE,
                "faultPosition()", "-1", "play()", ARGUMENT);
    }

    private static void start() {
        String begins = "Begins a new game with an empty field, score 0, level 1 and new statistics; the lock delay and the";
        String[] settings = {"set(0,7)", "set(1,3)", "start(9)"};
        String[] played = {"set(0,7)", "set(1,3)", "start(0)", "garbage(4,9)", "play cRx", "play lcx", "hold()", "tick(40)",
            "fall()", "start(9)"};
        String[] over = {"set(0,7)", "set(1,3)", "garbage(4,0)", "garbage(4,0)", "garbage(4,0)", "garbage(4,0)",
            "garbage(4,0)", "drop()", "start(9)"};
        RefusalCases.same(Script.of("Promise 2", begins), settings, played);
        RefusalCases.same(Script.of("Promise 2", begins), settings, over);
        Script.of("Promise 2", begins).after("set(0,7)", "set(1,3)", "start(9)").due("set(0,7)", "7", "set(1,3)", "3");
        Script.of("Promise 2", "All records and the hold are forgotten.").after("hold()", "drop()", "drop()").due("start(1)",
                "3", "held()", NONE, "undo()", UNSUPPORTED, "hold()", "-1", "undo()", "1");
        // The snapshot is no record.
        Script.of("Promise 2", "All records and the hold are forgotten.").after("drop()", "save()").due("start(0)", "0",
                "restore()", "", "statistic(3)", "1", "piece(0)", "5");
        Script.of("Promise 2", "- `seed`: the seed, 0 to 2147483647").and("Promise 2", "Returns the kind of the first piece.")
                .due("start(0)", "0", "piece(0)", "0", "start(2147483647)", "4", "piece(0)", "4", "start(2147483646)",
                Integer.toString(firstKind(2147483646)), "start(1)", "3", "start(-1)", ARGUMENT, "piece(0)", "3");
    }

    private static int firstKind(long seed) {
        return (int) ((seed * 1103515245 + 12345) % 2147483648L / 65536 % 7);
    }

    private static void set() {
        String what = "0 for the lock delay, 1 to 30 and 5 at first; 1 for the reset limit, 0 to 20 and 8 at first";
        Script.of("Promise 3", what).and("Promise 3", "Returns the previous value.").due("set(0,1)", "5", "set(0,30)", "1",
                "set(1,0)", "8", "set(1,20)", "0", "set(0,31)", ARGUMENT, "set(0,0)", ARGUMENT, "set(1,21)", ARGUMENT,
                "set(1,-1)", ARGUMENT, "set(0,2)", "30", "set(1,2)", "20", "set(0,20)", "2", "set(1,20)", "2");
        Script.of("Promise 3", "Sets the lock delay or the reset limit.").after(TO_THE_TOP).after("drop()").due("isOver()",
                "true", "set(0,1)", "5", "set(1,20)", "8", "start(1)", "3", "set(0,2)", "1", "set(1,2)", "20");
    }

    private static void isOver() {
        Script.of("Promise 4", "Returns whether the game is over.").due("isOver()", "false").after(TO_THE_TOP).due(
                "isOver()", "false").after("save()", "drop()").due("isOver()", "true", "undo()", "1", "isOver()", "false",
                "start(2)", "5", "isOver()", "false", "restore()", "", "isOver()", "false", "drop()", "0",
                "isOver()", "true", "undo()", UNSUPPORTED, "isOver()", "true", "start(1)", "3", "isOver()", "false");
    }

    private static void piece() {
        String number = "8 for the number of rows by which it could fall";
        Script.of("Promise 5", number).due("piece(8)", "20", "fall()", "true", "piece(8)", "19", "19 fall()", "true",
                "piece(8)", "0", "rotate(1)", "3", "piece(8)", "0", "slide(-1)", "4", "piece(2)", "-1", "piece(3)", "0",
                "drop()", "0", "piece(8)", "20", "slide(1)", "4", "piece(8)", "20");
        // In the hole of garbage, upright, it could fall to the ground, else to the top of the garbage.
        Script.of("Promise 5", number).after("start(0)", "garbage(4,9)").due("piece(8)", "16", "rotate(1)", "0",
                "piece(8)", "14", "slide(1)", "4", "piece(8)", "18", "piece(3)", "18").after(TO_THE_TOP[0]).due("piece(8)",
                "14", "slide(-1)", "9", "piece(8)", "10");
        Script.of("Promise 5", "4 for its fall counter, 5 for its rest counter, 6 for its reset counter, 7 for the number")
                .after("start(0)", "play c9d8d", "tick(9)", "garbage(1,6)", "tick(2)", "shift(-1)", "tick(1)").due("piece(0)",
                "0", "piece(1)", "1", "piece(2)", "2", "piece(3)", "1", "piece(4)", "9", "piece(5)", "1", "piece(6)", "1",
                "piece(7)", "2", "piece(8)", "0");
    }

    private static void next() {
        Script.of("Promise 6", "0 for the next one, to 4").due("next(0)", "5", "next(4)", "2", "next(5)", INDEX, "next(-1)",
                INDEX, "drop()", "0", "piece(0)", "5", "next(0)", "4", "next(3)", "2", "next(4)", "0");
        // An exchange with the hold takes nothing from the bags, the first hold does.
        Script.of("Promise 6", "Returns the kind of a following piece.").due("hold()", "-1", "piece(0)", "5", "next(0)", "4",
                "next(4)", "0", "drop()", "0", "next(0)", "6", "hold()", "3", "next(0)", "6", "next(4)", "6").after(
                TO_THE_TOP[0]).due("next(0)", "6");
        Script.of("Promise 6", "Returns the kind of a following piece.").after(TO_THE_TOP).after("drop()").due("isOver()",
                "true", "next(0)", "5", "next(4)", "2", "next(5)", INDEX);
    }

    private static void cellAndCovers() {
        Script.of("Promise 7", "Returns a cell of the field, without the present piece.").and("Promise 8",
                "Returns whether the present piece has a cell.").due("covers(3,20)", "true", "cell(3,20)", "-1",
                "drop()", "0", "cell(3,0)", "3", "covers(3,0)", "false");
        Script.of("Promise 7", "Returns the kind of the cell, or -1 if it is empty.").after("start(0)", "drop()", "drop()",
                "garbage(1,0)").due("cell(3,1)", "0", "cell(4,2)", "1", "cell(0,0)", "-1", "cell(1,0)", "7", "cell(9,0)", "7",
                "cell(9,1)", "-1", "cell(0,21)", "-1", "cell(9,21)", "-1");
        // All cells of the field, in all corners, and none behind a wall.
        Script.of("Promise 8", "Returns whether it has this cell.").after("start(8)", "play L").due("covers(0,21)", "true",
                "covers(0,20)", "true", "covers(1,21)", "true", "covers(9,20)", "false", "covers(9,19)", "false",
                "covers(2,20)", "false", "slide(1)", "8", "covers(9,21)", "true", "covers(9,20)", "true", "covers(0,21)",
                "false", "covers(0,20)", "false", "20 fall()", "true", "covers(9,0)", "true", "covers(8,1)", "true",
                "covers(0,1)", "false", "covers(0,2)", "false");
        // Outside of the field there is no cell, even where the box of the piece is.
        Script.of("Promise 8", "if there is no such cell").after("start(0)", "play cL").due("piece(2)", "-2",
                "covers(0,18)", "true", "covers(-1,18)", INDEX, "covers(-2,18)", INDEX, "covers(0,22)", INDEX);
    }

    private static void shiftAndSlide() {
        Script.of("Promise 9", "- `direction`: -1 for left, 1 for right").and("Promise 9", "Returns whether the shift").due(
                "shift(-1)", "true", "piece(2)", "2", "shift(1)", "true", "piece(2)", "3", "4 shift(1)", "true",
                "shift(1)", "false", "piece(2)", "7", "7 shift(-1)", "true", "shift(-1)", "false", "piece(2)", "0",
                "piece(7)", "15");
        Script.of("Promise 10", "- `direction`: -1 for left, 1 for right").and("Promise 10", "Returns by how many columns it")
                .due("slide(-1)", "3", "piece(2)", "0", "slide(-1)", "0", "slide(1)", "7", "piece(2)", "7", "slide(1)", "0",
                "piece(7)", "4");
        // The whole field has room for nine shifts of an upright long piece; it begins behind the wall.
        Script.of("Promise 10", "Returns by how many columns it moved.").after("start(0)", "play aL").due("piece(2)", "-1",
                "slide(1)", "9", "piece(2)", "8", "slide(-1)", "9");
    }

    private static void rotate() {
        String kick = "Returns the number of the kick, or -1 if the rotation failed.";
        Script.of("Promise 11", kick).and("Promise 11", "- `direction`: 1 or -1").due("rotate(1)", "0", "piece(1)", "1",
                "rotate(-1)", "0", "piece(1)", "0", "rotate(-1)", "0", "piece(1)", "3", "rotate(1)", "0", "piece(1)", "0",
                "piece(7)", "4");
        Script.of("Promise 11", kick).after("start(0)").after(TO_THE_TOP).due("rotate(1)", "-1", "piece(1)", "0",
                "rotate(-1)", "-1", "piece(1)", "0", "piece(7)", "2");
        Script.of("Promise 11", kick).after("start(134)", "play cRx", "play L5rx", "play a9d9dda2r").due("rotate(-1)", "8");
    }

    private static void fall() {
        Script.of("Promise 12", "Lets the present piece fall by one row, which gives 1 point; the fall counter becomes 0.")
                .after("tick(9)").due("piece(4)", "9", "fall()", "true", "piece(4)", "0", "statistic(0)", "1", "piece(3)",
                "18", "19 fall()", "true", "statistic(0)", "20", "piece(3)", "-1", "fall()", "false", "statistic(0)", "20",
                "piece(3)", "-1", "statistic(3)", "0", "tick(2)", "0", "fall()", "false", "piece(5)", "2");
        Script.of("Promise 12", "Returns whether it could fall.").after(TO_THE_TOP).due("piece(8)", "0", "fall()", "false",
                "statistic(0)", "0", "piece(3)", "19", "isOver()", "false");
        // A piece that cannot fall keeps its fall counter.
        Script.of("Promise 12", "If it cannot fall, nothing changes.").after("start(0)", "play c9d8d", "tick(9)",
                "garbage(1,9)", "tick(1)").due("fall()", "false", "piece(4)", "9", "piece(5)", "1", "piece(7)", "1");
    }

    private static void drop() {
        String drops = "Lets the present piece fall as far as possible, which gives 2 points for each row, and locks it.";
        Script.of("Promise 13", drops).due("drop()", "0", "statistic(0)", "40", "statistic(3)", "1", "cell(3,0)", "3");
        // By no row it gives no point; by falls it gives one for each.
        Script.of("Promise 13", drops).after("play 9d9dd").due("statistic(0)", "19", "drop()", "0", "statistic(0)", "21");
        Script.of("Promise 13", drops).after("play 9d9d2d").due("statistic(0)", "20", "drop()", "0", "statistic(0)", "20",
                "statistic(3)", "1", "cell(3,0)", "3");
        for (int rows = 0; rows <= 4; rows++) {
            Script script = Script.of("Promise 13", "Returns the number of rows cleared.").after("start(0)", "play c");
            if (rows > 0) {
                script.after("garbage(" + rows + ",9)");
            }
            script.after("play R").due("drop()", "" + rows, "latest(1)", "" + rows, "statistic(2)", "" + rows);
        }
    }

    private static void hold() {
        Script.of("Promise 14", "Returns the kind that was on hold before, or -1.").and("Promise 14", "Puts the present piece")
                .due("hold()", "-1", "held()", "3", "piece(0)", "5", "drop()", "0", "hold()", "3", "held()", "4", "piece(0)",
                "3", "drop()", "0", "piece(0)", "6", "hold()", "4", "held()", "6", "piece(0)", "4");
        // Kind 0 is a kind on hold like any other.
        Script.of("Promise 14", "If a piece is on hold already, its kind appears as the present piece").after("start(0)").due(
                "hold()", "-1", "held()", "0", "drop()", "0", "next(0)", "3", "hold()", "0", "piece(0)", "0",
                "piece(3)", "18", "held()", "5", "next(0)", "3");
        String again = "The hold can be used again only after a piece was locked.";
        Script.of("Promise 14", again).due("hold()", "-1", "hold()", UNSUPPORTED, "tick(30)", "0", "shift(1)", "true",
                "garbage(1,0)", "9", "hold()", UNSUPPORTED, "tick(200)", "1", "hold()", "3", "hold()", UNSUPPORTED,
                "placeBest()", "0", "hold()", "4", "hold()", UNSUPPORTED, "play x", "1", "hold()", "6");
        // What is put on hold loses its state, its place and its counters.
        Script.of("Promise 14", "Puts the present piece on hold.").after("start(0)", "play c9d8d", "tick(9)", "garbage(1,9)",
                "tick(2)", "shift(1)", "hold()", "drop()", "hold()").due("piece(0)", "0", "piece(1)", "0", "piece(2)", "3",
                "piece(3)", "18", "piece(4)", "0", "piece(5)", "0", "piece(6)", "0", "piece(7)", "0");
        // A snapshot and a record keep whether it was used.
        Script.of("Promise 14", again).due("hold()", "-1", "save()", "", "drop()", "0", "hold()", "3", "restore()", "",
                "hold()", UNSUPPORTED, "start(1)", "3", "hold()", "-1");
    }

    private static void held() {
        Script.of("Promise 15", "Returns the kind on hold.").due("held()", NONE, "hold()", "-1", "held()", "3").after(
                TO_THE_TOP[0], "drop()").due("held()", "3", "undo()", "2", "undo()", "1", "held()", NONE);
        Script.of("Promise 15", "Returns the kind on hold.").after("hold()").after(TO_THE_TOP).after("drop()").due("isOver()",
                "true", "held()", "3", "start(1)", "3", "held()", NONE);
    }

    private static void tick() {
        Script.of("Promise 16", "- `ticks`: the number, 1 to 200").due("tick(1)", "0", "statistic(8)", "1", "piece(4)", "1",
                "tick(200)", "0", "statistic(8)", "201", "piece(3)", "-1", "piece(5)", "1", "tick(201)", ARGUMENT, "tick(0)",
                ARGUMENT, "statistic(8)", "201");
        String end = "Lets ticks pass; those after the end of the game have no effect.";
        Script.of("Promise 16", end).after(TO_THE_TOP).due("tick(200)", "1", "isOver()", "true", "statistic(8)", "5",
                "tick(1)", STATE, "statistic(8)", "5", "undo()", "1", "statistic(8)", "0", "isOver()", "false");
        // As many ticks one by one make the same game, and the numbers of pieces add up.
        Script one = Script.of("Promise 16", "Returns the number of pieces locked.").after("set(0,1)", "garbage(4,0)",
                "garbage(4,0)", "garbage(4,0)", "garbage(4,0)");
        int sum = 0;
        for (int i = 0; i < 72; i++) {
            sum += one.number("tick(1)");
        }
        one.same("the sum", sum, 2);
        Script.of("Promise 16", "Returns the number of pieces locked.").after("set(0,1)", "garbage(4,0)",
                "garbage(4,0)", "garbage(4,0)", "garbage(4,0)").due("tick(72)", "2", "statistic(3)", "2",
                "piece(3)", one.answer("piece(3)"), "piece(4)", one.answer("piece(4)"), "statistic(8)", "72",
                "figure(2)", one.answer("figure(2)"), "tick(200)", "1", "isOver()", "true", "statistic(8)", "73");
    }

    private static void garbage() {
        String adds = "Adds rows of garbage at the bottom, all cells of which are filled except those of one column";
        for (int rows = 1; rows <= 4; rows++) {
            for (int hole : new int[] {0, 9, 4}) {
                Script script = Script.of("Promise 17", adds).and("Promise 17", "- `rows`: the number of rows, 1 to 4").and(
                        "Promise 17", "Returns the number of filled cells of the field afterwards.").after("drop()").due(
                        "garbage(" + rows + "," + hole + ")", "" + (4 + 9 * rows), "figure(0)", "" + (4 + 9 * rows),
                        "piece(3)", "19");
                for (int column = 0; column < 10; column++) {
                    script.due("cell(" + column + ",0)", column == hole ? "-1" : "7",
                            "cell(" + column + "," + (rows - 1) + ")", column == hole ? "-1" : "7",
                            "cell(" + column + "," + rows + ")", column == 3 || column == 4 ? "3" : "-1");
                }
            }
        }
        // Not the present piece moves up: it is on the ground in the hole, then under the rest of the field.
        Script.of("Promise 17", "all other rows and not the present piece move up").after("start(0)", "play cR9d9d").due(
                "garbage(4,9)", "36", "piece(3)", "0", "piece(2)", "7", "garbage(4,9)", "72", "piece(3)", "0",
                "covers(9,0)", "true", "cell(8,7)", "7", "cell(8,8)", "-1", "piece(8)", "0", "drop()", "4", "figure(0)",
                "36");
    }

    private static void garbageAndRoom() {
        String room = "if a filled cell would move above row 21, or the present piece would not fit any more";
        // The column of four cells gets to row 21, and no further; the piece beside it would fit.
        Script.of("Promise 17", room).after("start(0)", "play cLx", "garbage(4,9)", "garbage(4,9)", "garbage(4,9)",
                "garbage(4,9)").due("height(0)", "20", "garbage(3,9)", UNSUPPORTED, "garbage(2,9)", "166", "height(0)", "22",
                "cell(0,21)", "0", "cell(0,18)", "0", "cell(0,17)", "7", "garbage(1,9)", UNSUPPORTED, "garbage(1,0)",
                UNSUPPORTED, "piece(8)", "2", "figure(3)", "22");
        Script.of("Promise 17", "all other rows and not the present piece move up").after("start(0)", "play cRx",
                "garbage(4,0)", "garbage(4,0)", "garbage(4,0)", "garbage(4,0)").due("garbage(2,0)", "166", "cell(9,21)", "0",
                "cell(9,18)", "0", "cell(9,17)", "7", "cell(0,21)", "-1", "height(9)", "22");
        // The ground may come up to the piece, but not into it, unless it is in the hole.
        Script.of("Promise 17", room).after("play 9d9d").due("piece(8)", "2", "garbage(3,9)", UNSUPPORTED, "garbage(2,9)",
                "18", "piece(8)", "0", "garbage(1,9)", UNSUPPORTED, "garbage(1,3)", UNSUPPORTED, "figure(0)", "18");
        Script.of("Promise 17", room).after("start(0)", "play cR9d9d").due("garbage(1,8)", UNSUPPORTED, "garbage(4,9)", "36",
                "garbage(1,0)", UNSUPPORTED, "garbage(1,9)", "45");
        // What moves up may be in the way as well: the cells of kind 3 below kind 5.
        Script.of("Promise 17", room).after("drop()", "play 9d5d").due("piece(8)", "4", "garbage(4,0)", "40", "piece(8)", "0",
                "garbage(1,0)", UNSUPPORTED, "slide(1)", "4", "garbage(2,0)", "58");
    }

    private static void figure() {
        String what = "0 for the number of filled cells, 1 for the holes, 2 for the total height, 3 for the greatest height";
        Script.of("Promise 18", what).due("figure(0)", "0", "figure(1)", "0", "figure(2)", "0", "figure(3)", "0", "figure(4)",
                "0", "figure(5)", "0", "figure(6)", "0");
        // Kind 3 on the ground: ..33 above .33, with one hole; heights 0 0 0 1 2 2 0 0 0 0.
        Script.of("Promise 18", what).and("Promise 18", "Returns a figure of the field, without the present piece.").after(
                "drop()", "play 9d").due("figure(0)", "4", "figure(1)", "1", "figure(2)", "5", "figure(3)", "2", "figure(4)",
                "4", "figure(5)", "8", "figure(6)", "0");
        // At the walls: kind 0 upright in column 0, then also in column 9.
        Script.of("Promise 18", what).after("start(0)", "play cLx").due("figure(2)", "4", "figure(4)", "4", "figure(5)", "8",
                "figure(6)", "0", "figure(1)", "0");
        // Row transitions: two for a garbage row, wherever the hole is; none for rows that are empty.
        String[] holes = {"0", "5", "9"};
        for (String hole : holes) {
            Script.of("Promise 18", "where the walls count as filled cells, over all rows that are not empty").after(
                    "garbage(3," + hole + ")").due("figure(5)", "6", "figure(1)", "0", "figure(2)", "27", "figure(6)", "3",
                    "figure(4)", hole.equals("5") ? "6" : "3");
        }
        // The whole field: 22 rows high, with holes under the highest row.
        Script.of("Promise 18", what).after("start(0)", "play cLx", "garbage(4,0)", "garbage(4,0)", "garbage(4,0)",
                "garbage(4,0)", "garbage(2,0)").due("figure(0)", "166", "figure(1)", "18", "figure(2)", "184", "figure(3)",
                "22", "figure(4)", "4", "figure(5)", "44", "figure(6)", "0");
    }

    private static void wells() {
        String well = "how much lower the column is than the lower one of its neighbours, walls being of any height";
        Script.of("Promise 18", well).after("garbage(4,9)").due("figure(6)", "4", "start(1)", "3").after("garbage(4,0)")
                .due("figure(6)", "4", "start(1)", "3").after("garbage(4,5)").due("figure(6)", "4");
        // Between a neighbour of 4 and one of 2, it is 2 deep; beside one neighbour alone, nothing.
        Script.of("Promise 18", well).after("start(0)", "play cLx").due("figure(6)", "0").after("play Lrrx").due(
                "height(1)", "0", "height(2)", "2", "height(3)", "2", "figure(6)", "2", "figure(4)", "8");
        // It is the lower one of both neighbours, and those beside it: 4 0 0 2 2 has no well, at the walls neither.
        Script.of("Promise 18", well).after("start(0)", "play cL2rx").due("height(2)", "4", "figure(6)", "0").after(
                "play L5rx").due("height(5)", "2", "height(6)", "2", "figure(6)", "0");
        Script.of("Promise 18", well).after("start(0)", "play cL7rx").due("height(7)", "4", "figure(6)", "0").after(
                "play L3rx").due("height(3)", "2", "height(4)", "2", "figure(6)", "0");
        Script.of("Promise 18", well).after("start(0)", "play cLrx").due("height(1)", "4", "figure(6)", "4", "start(0)", "0")
                .after("play cRlx").due("height(8)", "4", "figure(6)", "4");
        // A column of 22 rows is no higher than a wall.
        Script.of("Promise 18", well).after("start(0)", "play cLrx", "garbage(4,0)", "garbage(4,0)", "garbage(4,0)",
                "garbage(4,0)", "garbage(2,0)").due("height(1)", "22", "height(0)", "0", "figure(6)", "22", "figure(3)", "22");
    }

    private static void height() {
        Script.of("Promise 19", "Returns the height of a column.").due("height(0)", "0", "height(9)", "0", "height(10)", INDEX,
                "height(-1)", INDEX).after("start(0)", "play cLx", "garbage(4,9)", "garbage(4,9)", "garbage(4,9)",
                "garbage(4,9)", "garbage(2,9)").due("height(0)", "22", "height(1)", "18", "height(8)", "18", "height(9)", "0",
                "covers(4,20)", "true", "height(4)", "18");
    }

    private static void statistic() {
        String what = "4 for the combo, 5 for the greatest combo there was, -1 without a clear";
        Script.of("Promise 20", what).due("statistic(4)", "-1", "statistic(5)", "-1", "drop()", "0", "statistic(5)", "-1",
                "start(0)", "0", "garbage(1,9)", "9").after("play cRx").due("statistic(4)", "0", "statistic(5)", "0",
                "drop()", "0", "statistic(4)", "-1", "statistic(5)", "0", "start(1)", "3", "statistic(5)", "-1");
        Script.of("Promise 20", "6 for the faults of all pieces locked, 7 for the inputs of all pieces locked, 8 for the ticks")
                .after("play lr", "tick(3)").due("statistic(6)", "0", "statistic(7)", "0", "statistic(8)", "3", "drop()", "0",
                "statistic(6)", "2", "statistic(7)", "2").after("play lrh").due("statistic(7)", "2", "drop()", "0",
                "statistic(7)", "2", "statistic(6)", "2", "statistic(3)", "2", "undo()", "3", "statistic(3)", "1",
                "statistic(7)", "2");
        Script.of("Promise 20", "0 for the score, 1 for the level, 2 for the rows cleared, 3 for the pieces locked").after(
                "start(0)", "garbage(4,9)", "play cRx").due("statistic(0)", "1836", "statistic(1)", "1", "statistic(2)", "4",
                "statistic(3)", "1");
    }

    private static void clears() {
        String what = "Returns how many locked pieces cleared a number of rows with a sort of spin.";
        Script none = Script.of("Promise 21", what);
        for (int rows = 0; rows <= 4; rows++) {
            for (int spin = 0; spin <= 2; spin++) {
                none.due("clears(" + rows + "," + spin + ")", "0");
            }
        }
        none.after("drop()").due("clears(0,0)", "1", "clears(1,0)", "0", "clears(4,2)", "0");
        Script.of("Promise 21", "- `rows`: the number of rows, 0 to 4").and("Promise 21", "0 for none, 1 for small, 2 for full")
                .after("start(3)", "hold()", "play 3lax", "play x", "play 4rx", "play x", "play r9d8dcr2dcx", "hold()",
                "play 2l9d7d", "rotate(-1)", "garbage(1,2)", "garbage(3,5)").due("clears(3,2)", "0", "clears(0,0)", "5",
                "drop()", "3", "clears(3,2)", "1", "clears(3,0)", "0", "clears(3,1)", "0", "clears(0,0)", "5", "undo()", "5",
                "clears(3,2)", "0", "start(1)", "3", "clears(0,0)", "0");
        Script.of("Promise 21", what).after("start(0)", "garbage(4,9)", "play cRx").due("clears(4,0)", "1", "clears(0,0)",
                "0", "clears(4,1)", "0", "clears(4,2)", "0");
    }

    private static void latest() {
        String what = "6 for 1 if its points were multiplied for a hard clear after a hard clear, and 0 otherwise";
        Script.of("Promise 22", what).and("Promise 22", "3 for the points times the level, 4 for its inputs, 5 for its least")
                .after("start(13)", "play Lxx", "play Lxx", "play Lxx", "garbage(4,9)", "garbage(4,9)", "play cRx").due(
                "latest(0)", "0", "latest(1)", "4", "latest(2)", "0", "latest(3)", "800", "latest(4)", "2", "latest(5)", "2",
                "latest(6)", "0").after("play cRx").due(
                "latest(3)", "1250", "latest(6)", "1", "drop()", "0", "latest(0)", "6", "latest(3)", "0", "latest(6)", "0");
        // A lock that ends the game is the latest one; a new game and an undo to the first piece have none.
        Script.of("Promise 22", "Returns a number about the latest piece that was locked.").due("latest(0)", NONE).after(
                TO_THE_TOP).after("play rx").due("isOver()", "true", "latest(0)", "3", "latest(4)", "1", "latest(5)", "1",
                "undo()", "1", "latest(0)", NONE).after("drop()").due("latest(0)", "3", "start(1)", "3", "latest(0)", NONE,
                "hold()", "-1", "latest(0)", NONE, "drop()", "0", "latest(0)", "5");
    }

    private static void meanFaults() {
        Script.of("Promise 23", "Returns the faults divided by the number of pieces, both as doubles.").due("meanFaults()",
                "ArithmeticException").after("hold()").due("meanFaults()", "ArithmeticException", "drop()", "0",
                "meanFaults()", "0.0").after("play lrx").due("meanFaults()", "1.0", "drop()", "0", "meanFaults()",
                "" + 2.0 / 3.0, "undo()", "4", "meanFaults()", "1.0", "start(1)", "3", "meanFaults()", "ArithmeticException");
    }

    /** For each kind and state, the first and the last column in which all cells are in the field, and those behind them. */
    private static void leastInputs() {
        String[][] columns = {
            {"0 6", "-2 7", "0 6", "-1 8"}, {"0 8", "0 8", "0 8", "0 8"}, {"0 7", "-1 7", "0 7", "0 8"},
            {"0 7", "-1 7", "0 7", "0 8"}, {"0 7", "-1 7", "0 7", "0 8"}, {"0 7", "-1 7", "0 7", "0 8"},
            {"0 7", "-1 7", "0 7", "0 8"},
        };
        // The least inputs of the first and the last column: slides alone, and as many rotations as are needed.
        String[] least = {"1 1", "2 2", "3 3", "2 2"};
        for (int kind = 0; kind < 7; kind++) {
            for (int state = 0; state < 4; state++) {
                String[] ends = columns[kind][state].split(" ");
                String start = "leastInputs(" + kind + "," + state + ",";
                String[] due = least[state].split(" ");
                Script.of("Promise 24", "gets to a state and a column, in a field without any filled cells, floor and").due(
                        start + ends[0] + ")", due[0], start + ends[1] + ")", due[1],
                        start + (Integer.parseInt(ends[0]) - 1) + ")", NONE, start + (Integer.parseInt(ends[1]) + 1) + ")",
                        NONE);
            }
        }
        Script.of("Promise 24", "- `column`: the column of its box").due("leastInputs(3,0,3)", "0", "leastInputs(3,0,2)", "1",
                "leastInputs(3,0,1)", "2", "leastInputs(3,0,0)", "1", "leastInputs(3,0,6)", "2", "leastInputs(3,0,5)", "2",
                "leastInputs(1,0,4)", "0", "leastInputs(1,0,3)", "1", "leastInputs(1,1,4)", "1", "leastInputs(1,2,4)", "2",
                "leastInputs(0,3,3)", "1", "leastInputs(0,1,3)", "1", "leastInputs(0,2,3)", "2");
        // Neither the present field nor the end of the game matters.
        Script.of("Promise 24", "Returns the least number of inputs by which a piece that has appeared gets to a state").after(
                TO_THE_TOP).after("play lcx").due("isOver()", "true", "leastInputs(3,0,3)", "0", "leastInputs(3,0,0)", "1",
                "leastInputs(0,1,-2)", "2", "leastInputs(0,1,-3)", NONE);
    }

    private static void placements() {
        Script.of("Promise 25", "Returns the number of placements of the present piece.").and("Promise 26",
                "from 0 for the best one").after("start(8)").due("placements()", "9", "placement(0,4)", "0",
                "placement(8,4)", "7", "placement(9,0)", NONE, "placement(-1,0)", NONE, "placement(9,8)", NONE,
                "placement(8,8)", ARGUMENT, "placement(8,-1)", ARGUMENT, "placement(8,7)", "18", "piece(2)", "4", "piece(3)", "20",
                "piece(7)", "0", "statistic(3)", "0");
        Script.of("Promise 26", "4 to 7 for 10 times the row plus the column of its cells, in ascending order of row and then")
                .after("start(8)").due("placement(0,4)", "0", "placement(0,5)", "1", "placement(0,6)", "10", "placement(0,7)",
                "11", "placement(0,0)", "0", "placement(0,1)", "0", "placement(0,2)", "4", "placement(0,3)", "2").after(
                "start(0)", "garbage(4,9)").due("placement(0,0)", "4", "placement(0,4)", "9", "placement(0,5)", "19",
                "placement(0,6)", "29", "placement(0,7)", "39", "placement(0,2)", "0");
        // In row 20, upon holes that are too low to stand in: best beside them, worst where it covers the highest one.
        Script.of("Promise 26", "4 to 7 for 10 times the row plus the column of its cells").after("start(0)").after(
                CLOSED).due("placements()", "7", "placement(0,4)", "206", "placement(0,7)", "209", "placement(6,4)", "200",
                "placement(6,7)", "203", "placement(7,0)", NONE);
        // What was found does not hold any more when garbage has come up, and when the piece has fallen into the shaft.
        Script.of("Promise 25", "Returns the number of placements of the present piece.").after("start(0)").due("placements()",
                "17", "placement(0,0)", "0", "garbage(4,9)", "36", "placement(0,0)", "4").after("play cR").due(
                "placements()", "17").after("play 9d8d").due("piece(8)", "1", "placements()", "1", "placeBest()", "4",
                "figure(0)", "0");
        // What was found for another place, or another field, does not hold any more.
        Script.of("Promise 25", "Returns the number of placements of the present piece.").after("start(0)", "garbage(4,9)")
                .due("placements()", "17", "placement(0,0)", "4").after("play cR9d9d").due("placements()", "1", "undo()",
                UNSUPPORTED).after("save()", "drop()").due("placements()", "9", "restore()", "", "placements()", "1",
                "start(0)", "0", "placements()", "17");
    }

    private static void placeBest() {
        String none = "This gives no points for rows that it falls, and its last move counts as a fall.";
        Script.of("Promise 27", none).after("start(8)", "play 2d").due("statistic(0)", "2", "placeBest()", "0", "statistic(0)",
                "2", "statistic(3)", "1", "cell(0,0)", "1", "cell(1,1)", "1", "latest(4)", "0", "latest(5)", "1",
                "statistic(6)", "0");
        // Not a spin, though a rotation has brought it into its best place already, where it does not move any more.
        Script.of("Promise 27", none).after("start(8)", "garbage(1,8)", "play Lx2rxlx", "play cR9d9ddc").due("piece(8)", "0",
                "placement(0,0)", "2", "placement(0,4)", "8", "covers(8,0)", "true", "placeBest()", "2", "latest(2)", "0",
                "latest(3)", "300", "latest(1)", "2");
        Script.of("Promise 27", "Locks the present piece in its best placement.").and("Promise 27",
                "Returns the number of rows cleared.").after("start(0)", "garbage(4,9)").due("placeBest()", "4", "figure(0)",
                "0", "latest(3)", "1800", "statistic(0)", "1800", "piece(0)", "1");
        // Also where it ends the game, and the hold is given back.
        Script.of("Promise 27", "Locks the present piece in its best placement.").after("start(0)").after(CLOSED).due(
                "placeBest()", "0", "isOver()", "true", "cell(6,20)", "0", "cell(9,20)", "0", "undo()", "1");
        Script.of("Promise 27", "Locks the present piece in its best placement.").after("hold()").due("placeBest()", "0",
                "hold()", "3");
    }

    private static void append() {
        String full = "if the buffer contains 60 characters";
        Script.of("Promise 28", full).due("60 append('l')", "", "append('l')", STATE, "append('x')", STATE, "play()", "60",
                "piece(7)", "60", "statistic(3)", "0", "append('r')", "", "play()", "1", "piece(2)", "1");
        // The 61st is refused also after ones that are no commands; then there is room for 60 again.
        Script.of("Promise 28", full).due("60 append('?')", "", "append('l')", STATE, "play()", ARGUMENT, "faultPosition()",
                "0", "60 append('d')", "", "append('d')", STATE, "play()", "60", "piece(3)", "-1");
        Script.of("Promise 28", full).and("Promise 30", "or the length of the text if it ends too early").due(
                "59 append('l')", "", "append('2')", "", "append('l')", STATE, "play()", ARGUMENT, "faultPosition()", "60",
                "piece(7)", "0", "play()", ARGUMENT, "faultPosition()", "0");
        // Also while the game is over.
        Script.of("Promise 28", "Appends a character to the text buffer.").after(TO_THE_TOP).after("drop()").due(
                "60 append('l')", "", "append('l')", STATE, "undo()", "1", "append('l')", STATE, "play()", "60");
    }

    private static void play() {
        String reads = "Reads the text buffer as a text of inputs and carries out its commands from left to right, until the";
        // The third of these pieces ends the game; what follows is neither carried out nor counted, and is gone.
        Script.of("Promise 29", reads).and("Promise 29", "Returns how many commands were carried out, each one as often as it")
                .after("start(0)", "garbage(4,0)", "garbage(4,0)", "garbage(4,0)", "garbage(4,0)").due("play l9xlrt", "4",
                "isOver()", "true", "statistic(3)", "3", "statistic(8)", "0", "faultPosition()", "-1", "undo()", "3",
                "play()", ARGUMENT, "faultPosition()", "0", "piece(7)", "0");
        Script.of("Promise 29", reads).after(TO_THE_TOP).due("play l9t3l", "6", "isOver()", "true", "statistic(8)", "5",
                "play l", STATE, "play()", ARGUMENT);
        // By a hold the game ends, too.
        Script.of("Promise 29", reads).after("start(0)", "play Lx").after(TO_THE_TOP).due("play rhlr", "2", "isOver()",
                "true", "play r", STATE);
        // Commands that do not move the piece are carried out all the same.
        Script.of("Promise 29", "Returns how many commands were carried out, each one as often as it was.").due("play 9l9L9d",
                "27", "play 9d9d", "18", "piece(3)", "-1", "piece(7)", "18", "play 2t", "2", "start(1)", "3", "play 9x9x", "13",
                "isOver()", "true");
        // Sixty characters are at most 270 commands.
        Script.of("Promise 29", "Returns how many commands were carried out, each one as often as it was.").due("play "
                + "9t".repeat(30), "270", "statistic(8)", "270", "statistic(3)", "1", "play " + "9l".repeat(30), "270",
                "piece(7)", "270", "faultPosition()", "-1");
        // The buffer is emptied by each call: played, refused for its text, refused because the game is over.
        String emptied = "the buffer is emptied, also if an exception is thrown";
        Script.of("Promise 29", emptied).due("play ll", "2", "play()", ARGUMENT, "play l1", ARGUMENT, "play r", "1",
                "piece(2)", "2").after(TO_THE_TOP).after("drop()").due(
                "play x", STATE, "undo()", "1", "play l", "1", "statistic(3)", "0");
        Script.of("Promise 29", "if the text is not a text of inputs; then nothing is carried out").due("play lll9", ARGUMENT,
                "piece(2)", "3", "piece(7)", "0", "play xxx?", ARGUMENT, "statistic(3)", "0");
    }

    private static void faultPosition() {
        String index = "Returns the index of its first character that cannot continue a text of inputs, or the length of the";
        Script.of("Promise 30", index).due("faultPosition()", "-1", "type l?l?", "", "faultPosition()", "-1", "play()",
                ARGUMENT, "faultPosition()", "1", "play ?", ARGUMENT, "faultPosition()", "0", "play 2", ARGUMENT,
                "faultPosition()", "1", "play 2?", ARGUMENT, "faultPosition()", "1", "play 22", ARGUMENT, "faultPosition()",
                "1", "play l2l3", ARGUMENT, "faultPosition()", "4", "play l", "1", "faultPosition()", "-1", "play()", ARGUMENT,
                "faultPosition()", "0");
        Script.of("Promise 30", "Returns the fault position of the text of the latest call of play.").due("play l?", ARGUMENT,
                "type ll??", "", "faultPosition()", "1", "hold()", "-1", "drop()", "0", "undo()", "2", "start(1)", "3",
                "faultPosition()", "1", "play()", ARGUMENT, "faultPosition()", "2").after(TO_THE_TOP).after("drop()").due(
                "play l", STATE, "faultPosition()", "-1", "play l9", ARGUMENT, "faultPosition()", "2");
    }

    private static void undo() {
        String undoes = "Undoes: forgets the latest record, which is that of the present piece, and goes back to the record";
        Script.of("Promise 31", undoes).and("Promise 31", "Returns the number of records that are kept then.").due("undo()",
                UNSUPPORTED, "shift(1)", "true", "undo()", UNSUPPORTED, "piece(2)", "4", "drop()", "0", "shift(1)", "true",
                "undo()", "1", "piece(0)", "3", "piece(2)", "3", "piece(7)", "0", "undo()", UNSUPPORTED);
        String over = "If the game is over, it forgets no record and goes back to the latest one.";
        Script.of("Promise 31", over).after("play Lx", "play Rx").after(TO_THE_TOP).after("play rx").due("isOver()", "true",
                "undo()", "3", "isOver()", "false", "piece(2)", "3", "figure(0)", "8", "statistic(3)", "2", "undo()", "2",
                "undo()", "1", "undo()", UNSUPPORTED);
        // With six records, all six are kept when the game was over.
        Script.of("Promise 31", over).after("play LxRxLxRxLxRx", "garbage(4,0)", "garbage(4,0)", "garbage(4,0)",
                "garbage(4,0)").after("play 9x").due("isOver()", "true", "undo()", "6", "undo()", "5");
        // The first piece of a game can be taken back if it ended the game, but not without a record.
        Script.of("Promise 31", over).after(TO_THE_TOP).after("drop()").due("undo()", "1", "undo()", UNSUPPORTED, "isOver()",
                "false");
        Script.of("Promise 31", "if there is no record to which it could go back").after(TO_THE_TOP).after("save()",
                "restore()", "drop()").due("isOver()", "true", "undo()", UNSUPPORTED, "isOver()", "true", "restore()", "",
                "undo()", UNSUPPORTED, "isOver()", "false");
        // After a restoration, the next piece has the only record, which is that of the present piece.
        Script.of("Promise 31", undoes).after("drop()", "save()", "restore()", "drop()").due("undo()", UNSUPPORTED, "drop()",
                "0", "undo()", "1", "statistic(3)", "2", "undo()", UNSUPPORTED);
        Script.of("Promise 31", over).after("save()", "restore()", "play Lx").after(TO_THE_TOP).after("drop()").due("isOver()",
                "true", "undo()", "1", "isOver()", "false", "statistic(3)", "1", "figure(0)", "4", "undo()", UNSUPPORTED);
    }

    private static void save() {
        String saves = "Saves the game with its settings, without records, in place of an earlier snapshot.";
        String[] before = {"start(5)", "set(0,9)", "play lcx", "tick(13)", "hold()", "garbage(2,6)", "set(1,2)", "play l9d9d"};
        // Nothing but the snapshot changes: the records stay, too.
        RefusalCases.same(Script.of("Promise 32", saves), RefusalCases.joined(before, new String[] {"save()"}),
                RefusalCases.joined(before, new String[] {"save()", "save()"}));
        Script.of("Promise 32", saves).after("drop()", "save()").due("undo()", "1", "piece(0)", "3", "restore()", "",
                "statistic(3)", "1", "undo()", UNSUPPORTED);
        Script.of("Promise 32", saves).after("save()", "drop()", "set(0,9)", "save()", "drop()", "set(0,2)").due("restore()",
                "", "statistic(3)", "1", "set(0,9)", "9", "undo()", UNSUPPORTED);
        // A game that is over can be saved.
        Script.of("Promise 32", saves).after(TO_THE_TOP).after("drop()", "save()", "start(3)").due("isOver()", "false",
                "restore()", "", "isOver()", "true", "piece(0)", STATE, "figure(0)", "184", "latest(0)", "3", "undo()",
                UNSUPPORTED);
    }

    private static void restore() {
        String restores = "Restores what was saved; the snapshot is kept.";
        String[] before = {"start(21)", "set(0,9)", "play Lx", "tick(13)", "set(1,2)", "play 3l9d9d", "rotate(1)", "tick(2)",
            "save()", "restore()"};
        String[] since = {"start(7)", "set(0,3)", "set(1,7)", "play lcx", "hold()", "garbage(3,3)", "tick(99)", "restore()"};
        String[] over = RefusalCases.joined(TO_THE_TOP, new String[] {"restore()"});
        RefusalCases.same(Script.of("Promise 33", restores), before, RefusalCases.joined(before, since));
        RefusalCases.same(Script.of("Promise 33", restores), before, RefusalCases.joined(before, since, since));
        RefusalCases.same(Script.of("Promise 33", restores), before, RefusalCases.joined(before, new String[] {"drop()",
            "drop()", "restore()", "undo()"}));
        RefusalCases.same(Script.of("Promise 33", restores), before, RefusalCases.joined(before, over));
        // The lowest row of the piece is kept: on the ground, it does not get lower than before.
        Script.of("Promise 33", restores).after("play 9d9d2d", "tick(2)", "shift(1)", "save()", "start(1)", "restore()").due(
                "piece(6)", "1", "shift(1)", "true", "piece(6)", "2", "tick(2)", "0", "piece(5)", "2");
        // And it is not that of the piece that fell since.
        Script.of("Promise 33", restores).after("drop()", "garbage(4,0)", "garbage(4,0)", "garbage(4,0)", "garbage(4,0)",
                "garbage(2,0)", "save()", "play R2d", "restore()").due("piece(3)", "19", "piece(8)", "0", "slide(1)", "4",
                "piece(6)", "1", "fall()", "true", "piece(6)", "0");
        Script.of("Promise 33", "There are no records then.").due("restore()", NONE, "save()", "").after("play LxRxLx").due(
                "undo()", "3", "restore()", "", "undo()", UNSUPPORTED, "drop()", "0", "undo()", UNSUPPORTED, "drop()", "0",
                "undo()", "1", "undo()", UNSUPPORTED);
    }
}
