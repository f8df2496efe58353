import java.util.ArrayList;
import java.util.Arrays;
import java.util.HashMap;
import java.util.List;
import java.util.Map;

/**
 * Calls that are refused, in games of many sorts: each throws the exception that the document lists first, and leaves
 * everything as it is. That is seen by a second game in which the refused call is left out: whatever both are asked
 * afterwards, and however they go on, they must answer the same.
 */
final class RefusalCases {
    private static final String STATE = "IllegalStateException";
    private static final String ARGUMENT = "IllegalArgumentException";
    private static final String INDEX = "IndexOutOfBoundsException";
    private static final String NONE = "NoSuchElementException";
    private static final String UNSUPPORTED = "UnsupportedOperationException";
    private static final String ARITHMETIC = "ArithmeticException";

    private static final String LEAST = "-2147483648";
    private static final String GREATEST = "2147483647";

    /** How a game goes on before it is asked. */
    private static final String[][] ENDINGS = {
        {}, {"drop()"}, {"tick(1)"}, {"tick(200)"}, {"play()"}, {"hold()", "placeBest()"}, {"restore()", "hold()"},
        {"undo()", "undo()", "undo()", "undo()", "undo()", "undo()"}, {"drop()", "undo()", "rotate(1)", "garbage(1,3)"},
        {"append('l')", "append('3')", "append('r')", "play()"},
    };

    /** Promise, words, exception, and calls that are refused in every game. */
    private static final String[][] ALWAYS = {
        {"Promise 2", "if the seed is negative", ARGUMENT, "start(-1)", "start(" + LEAST + ")"},
        {"Promise 3", "if what is neither 0 nor 1, or the value is out of range", ARGUMENT, "set(-1,5)", "set(2,5)",
            "set(0,0)", "set(0,31)", "set(0,-1)", "set(1,-1)", "set(1,21)", "set(2,0)", "set(2,31)",
            "set(" + LEAST + ",5)", "set(" + GREATEST + ",5)", "set(0," + LEAST + ")", "set(1," + GREATEST + ")"},
        {"Promise 6", "if the index is not from 0 to 4", INDEX, "next(-1)", "next(5)", "next(" + LEAST + ")",
            "next(" + GREATEST + ")"},
        {"Promise 7", "if there is no such cell", INDEX, "cell(-1,0)", "cell(10,0)", "cell(0,-1)", "cell(0,22)",
            "cell(-1,21)", "cell(10,22)", "cell(" + GREATEST + ",0)", "cell(0," + LEAST + ")", "cell(-10,1)",
            "cell(429496730,0)", "cell(0,429496730)"},
        {"Promise 16", "if the number is out of range", ARGUMENT, "tick(0)", "tick(201)", "tick(-1)",
            "tick(" + LEAST + ")", "tick(" + GREATEST + ")"},
        {"Promise 17", "if the number of rows is out of range or there is no such column", ARGUMENT, "garbage(0,0)",
            "garbage(5,0)", "garbage(1,-1)", "garbage(1,10)", "garbage(-1,4)", "garbage(5,10)", "garbage(4,10)",
            "garbage(" + GREATEST + ",0)", "garbage(1," + LEAST + ")"},
        {"Promise 18", "if what is not from 0 to 6", ARGUMENT, "figure(-1)", "figure(7)", "figure(" + LEAST + ")",
            "figure(" + GREATEST + ")"},
        {"Promise 19", "if there is no such column", INDEX, "height(-1)", "height(10)", "height(" + LEAST + ")",
            "height(" + GREATEST + ")"},
        {"Promise 20", "if what is not from 0 to 8", ARGUMENT, "statistic(-1)", "statistic(9)",
            "statistic(" + LEAST + ")", "statistic(" + GREATEST + ")"},
        {"Promise 21", "if an argument is out of range", ARGUMENT, "clears(-1,0)", "clears(5,0)", "clears(0,-1)",
            "clears(0,3)", "clears(4,3)", "clears(5,2)", "clears(" + GREATEST + ",0)", "clears(0," + LEAST + ")"},
        {"Promise 24", "if there is no such kind or state", ARGUMENT, "leastInputs(-1,0,3)", "leastInputs(7,0,3)",
            "leastInputs(0,-1,3)", "leastInputs(0,4,3)", "leastInputs(" + GREATEST + ",0,3)",
            "leastInputs(0," + LEAST + ",3)"},
        {"Promise 24", "if a cell would be outside of the columns", NONE, "leastInputs(0,0,-1)", "leastInputs(0,0,7)",
            "leastInputs(1,0,-1)", "leastInputs(1,3,9)", "leastInputs(6,3,-1)", "leastInputs(6,1,9)",
            "leastInputs(2,0," + LEAST + ")", "leastInputs(2,0," + GREATEST + ")", "leastInputs(2,0,16)",
            "leastInputs(6,3,13)", "leastInputs(6,3,12)", "leastInputs(6,3,14)", "leastInputs(0,0,-3)",
            "leastInputs(0,0,-4)", "leastInputs(0,1,-19)"},
        {"Exceptions", "the one that is listed first determines the exception", ARGUMENT, "leastInputs(7,0,-5)",
            "leastInputs(-1,0,99)", "leastInputs(0,4,-5)", "leastInputs(0,-1,99)"},
    };

    /** Refused as long as there is a present piece. */
    private static final String[][] PLAYING = {
        {"Promise 5", "if what is not from 0 to 8", ARGUMENT, "piece(-1)", "piece(9)", "piece(" + LEAST + ")",
            "piece(" + GREATEST + ")"},
        {"Promise 8", "if there is no such cell", INDEX, "covers(-1,20)", "covers(10,20)", "covers(4,-1)", "covers(4,22)",
            "covers(" + GREATEST + ",20)", "covers(4," + LEAST + ")", "covers(13,19)", "covers(-7,21)"},
        {"Promise 9", "if direction is neither -1 nor 1", ARGUMENT, "shift(0)", "shift(2)", "shift(-2)",
            "shift(" + LEAST + ")", "shift(" + GREATEST + ")"},
        {"Promise 10", "if direction is neither -1 nor 1", ARGUMENT, "slide(0)", "slide(2)", "slide(-2)",
            "slide(" + LEAST + ")", "slide(" + GREATEST + ")"},
        {"Promise 11", "if direction is neither -1 nor 1", ARGUMENT, "rotate(0)", "rotate(2)", "rotate(-2)", "rotate(3)",
            "rotate(" + LEAST + ")", "rotate(" + GREATEST + ")"},
        {"Promise 26", "if there is no such rank", NONE, "placement(-1,0)", "placement(440,0)",
            "placement(" + LEAST + ",0)", "placement(" + GREATEST + ",0)"},
        {"Exceptions", "the one that is listed first determines the exception", NONE, "placement(-1,8)",
            "placement(440,-1)", "placement(512,8)"},
        {"Promise 26", "if what is not from 0 to 7", ARGUMENT, "placement(0,-1)", "placement(0,8)",
            "placement(0," + LEAST + ")", "placement(0," + GREATEST + ")"},
    };

    /** Refused when the game is over; some of them for their arguments as well. */
    private static final String[][] OVER = {
        {"Promise 5", "if the game is over", STATE, "piece(0)", "piece(8)", "piece(-1)", "piece(9)"},
        {"Promise 8", "if the game is over", STATE, "covers(0,0)", "covers(-1,0)", "covers(0,22)"},
        {"Promise 9", "if the game is over", STATE, "shift(1)", "shift(-1)", "shift(0)"},
        {"Promise 10", "if the game is over", STATE, "slide(1)", "slide(-1)", "slide(2)"},
        {"Promise 11", "if the game is over", STATE, "rotate(1)", "rotate(-1)", "rotate(0)"},
        {"Promise 12", "if the game is over", STATE, "fall()"},
        {"Promise 13", "if the game is over", STATE, "drop()"},
        {"Promise 14", "if the game is over", STATE, "hold()"},
        {"Promise 16", "if the game is over", STATE, "tick(1)", "tick(200)"},
        {"Promise 17", "if the game is over", STATE, "garbage(1,0)", "garbage(4,9)"},
        {"Promise 25", "if the game is over", STATE, "placements()"},
        {"Promise 26", "if the game is over", STATE, "placement(0,0)", "placement(-1,0)", "placement(0,8)",
            "placement(-1,8)"},
        {"Promise 27", "if the game is over", STATE, "placeBest()"},
    };

    private static final String[][] NO_HELD = {{"Promise 15", "if there is none", NONE, "held()"}};
    private static final String[][] NO_LOCK = {{"Promise 22", "if no piece was locked in this game", NONE, "latest(0)",
        "latest(6)", "latest(-1)", "latest(7)"}};
    private static final String[][] NO_MEAN = {{"Promise 23", "if no piece was locked", ARITHMETIC, "meanFaults()"}};
    private static final String[][] LOCK = {{"Promise 22", "if what is not from 0 to 6", ARGUMENT, "latest(-1)", "latest(7)",
        "latest(" + LEAST + ")", "latest(" + GREATEST + ")"}};
    private static final String[][] NO_RECORD = {{"Promise 31", "if there is no record to which it could go back",
        UNSUPPORTED, "undo()"}};
    private static final String[][] NO_SNAPSHOT = {{"Promise 33", "if there is no snapshot", NONE, "restore()"}};
    private static final String[][] HOLD_USED = {{"Promise 14", "if the hold was used since a piece was locked", UNSUPPORTED,
        "hold()"}};
    private static final String[][] FULL = {{"Promise 28", "if the buffer contains 60 characters", STATE, "append('l')",
        "append('?')"}};
    private static final String[][] NO_ROOM = {{"Promise 17", "if a filled cell would move above row 21, or the present piece",
        UNSUPPORTED, "garbage(3,0)", "garbage(4,9)"}};

    private static final String[] TO_THE_TOP = {"garbage(4,0)", "garbage(4,0)", "garbage(4,0)", "garbage(4,0)",
        "garbage(4,0)"};

    private static final Map<String, List<String>> SEEN = new HashMap<>();

    private RefusalCases() {
    }

    static void all() {
        playing();
        over();
        texts();
        questions();
    }

    private static void playing() {
        String[] first = {};
        refuse(first, ALWAYS, PLAYING, NO_HELD, NO_LOCK, NO_MEAN, NO_RECORD, NO_SNAPSHOT);
        // All has been used: pieces, the hold, the snapshot, settings, and a text that was wrong and one to be played.
        String[] used = {"set(0,9)", "start(5)", "play lcx", "play 2rx", "hold()", "tick(33)", "save()", "set(1,4)", "drop()",
            "garbage(2,7)", "hold()", "play Lt", "type l7", "play ?", "type 3rc", "fall()"};
        refuse(used, ALWAYS, PLAYING, LOCK, HOLD_USED);
        // A resting piece of kind 2 whose last move is a rotation that spins.
        String[] spinning = {"start(21)", "play Lx", "play 3l9d9d", "rotate(1)", "tick(3)", "shift(1)"};
        refuse(spinning, ALWAYS, PLAYING, LOCK, NO_HELD, NO_SNAPSHOT);
        // After a restoration there are no records.
        String[] restored = {"hold()", "save()", "play x", "restore()"};
        refuse(restored, ALWAYS, PLAYING, NO_LOCK, NO_MEAN, NO_RECORD, HOLD_USED);
        // A new game after another one.
        String[] again = joined(used, new String[0], "start(4)");
        refuse(again, ALWAYS, NO_HELD, NO_LOCK, NO_MEAN, NO_RECORD);
        // Sixty characters, and no room for garbage: for the filled cells, and for the piece.
        String[] full = joined(TO_THE_TOP, new String[] {"type " + "l".repeat(60)});
        refuse(full, ALWAYS, PLAYING, FULL, NO_ROOM, NO_SNAPSHOT);
        String[] column = {"start(0)", "play cLx", "garbage(4,9)", "garbage(4,9)", "garbage(4,9)", "garbage(4,9)",
            "garbage(2,9)"};
        refuse(column, ALWAYS, PLAYING, NO_ROOM, new String[][] {{"Promise 17", "if a filled cell would move above row 21", UNSUPPORTED,
            "garbage(1,0)", "garbage(2,9)"}});
        String[] low = {"play 9d9d2d"};
        refuse(low, ALWAYS, PLAYING, NO_ROOM, new String[][] {{"Promise 17", "or the present piece would not fit any more", UNSUPPORTED,
            "garbage(1,0)", "garbage(1,3)", "garbage(1,4)"}});
    }

    private static void over() {
        String[] locked = joined(new String[] {"start(8)", "hold()", "play Lx", "type l?"}, TO_THE_TOP, "drop()");
        refuse(locked, ALWAYS, OVER, LOCK, NO_SNAPSHOT);
        // By a hold, which is used then.
        String[] held = joined(new String[] {"start(0)", "play Lx"}, TO_THE_TOP, "hold()");
        refuse(held, ALWAYS, OVER, LOCK, NO_SNAPSHOT);
        String[] snapshot = joined(locked, new String[] {"save()", "start(7)", "restore()"});
        refuse(snapshot, ALWAYS, OVER, LOCK, NO_RECORD);
        refuse(joined(locked, new String[] {"type " + "l".repeat(58)}), FULL);
    }

    /** A text that is refused is gone, and its fault position stays; nothing else changes. */
    private static void texts() {
        String nothing = "if the text is not a text of inputs; then nothing is carried out";
        String[] used = {"start(5)", "play lcx", "hold()", "tick(33)", "save()", "drop()", "garbage(2,7)"};
        for (String text : new String[] {"lrcxh1", "x2", "hhx t", "X", "9x9x9x!"}) {
            same(Script.of("Promise 29", nothing), joined(used, new String[] {"type ?", "play()"}, "faultPosition()"),
                    joined(used, new String[] {"type " + text, "play()", "play()"}));
        }
        String[] over = joined(new String[] {"start(8)", "hold()", "play Lx"}, TO_THE_TOP, "drop()");
        same(Script.of("Promise 29", "if the game is over").and("Promise 29", "the buffer is emptied, also if an exception"),
                over, joined(over, new String[] {"type lxt", "play()"}));
        same(Script.of("In doubt", "A text that is wrong is refused also if the game is over."),
                joined(over, new String[] {"type ?", "play()"}), joined(over, new String[] {"type lx?", "play()", "play()"}));
    }

    /** What only asks changes nothing, and neither does a fall of a piece that rests. */
    private static void questions() {
        String[][] games = {{}, {"start(21)", "play Lx", "play 3l9d9d", "rotate(1)", "tick(3)", "type l3"},
            joined(new String[] {"start(8)", "hold()", "play Lx"}, TO_THE_TOP, "drop()")};
        for (String[] game : games) {
            List<String> asked = new ArrayList<>(Arrays.asList(game));
            for (int kind = 0; kind < 7; kind++) {
                asked.add("leastInputs(" + kind + ",3,2)");
            }
            asked.addAll(List.of("placements()", "placement(3,5)", "piece(8)", "next(4)", "held()", "figure(6)", "cell(3,3)",
                    "covers(3,3)", "height(4)", "statistic(8)", "clears(4,2)", "latest(6)", "meanFaults()", "isOver()",
                    "faultPosition()"));
            same(new Script("questions"), game, asked.toArray(new String[0]));
        }
        same(Script.of("Promise 12", "If it cannot fall, nothing changes."), games[1], joined(games[1], new String[] {"fall()"}));
        same(Script.of("Promise 12", "If it cannot fall, nothing changes."), TO_THE_TOP, joined(TO_THE_TOP,
                new String[] {"fall()", "fall()"}));
    }

    private static void refuse(String[] before, String[][]... tables) {
        for (String[][] table : tables) {
            for (String[] line : table) {
                for (int i = 3; i < line.length; i++) {
                    refuseOne(Script.of(line[0], line[1]).and("Exceptions", "leaves the state unchanged"), before, line[i],
                            line[2]);
                }
            }
        }
    }

    private static void refuseOne(Script script, String[] before, String call, String due) {
        FallingBlocks game = new FallingBlocks();
        for (String earlier : before) {
            Script.make(game, earlier);
        }
        script.same(call + " after " + Arrays.toString(before), Calls.answer(game, call), due);
        same(script, before, joined(before, new String[] {call}));
    }

    /** Two games must not differ in anything that the document promises. */
    static void same(Script script, String[] one, String[] other) {
        for (String[] ending : ENDINGS) {
            List<String> due = SEEN.computeIfAbsent(Arrays.toString(one) + Arrays.toString(ending), key -> look(one, ending));
            List<String> got = look(other, ending);
            for (int i = 0; i < due.size(); i++) {
                script.same("after " + Arrays.toString(other) + " and " + Arrays.toString(ending), got.get(i), due.get(i));
            }
        }
    }

    static String[] joined(String[] one, String[] other, String... more) {
        List<String> all = new ArrayList<>(Arrays.asList(one));
        all.addAll(Arrays.asList(other));
        all.addAll(Arrays.asList(more));
        return all.toArray(new String[0]);
    }

    /** Returns what a game tells of itself after calls and an ending. */
    private static List<String> look(String[] calls, String[] ending) {
        FallingBlocks game = new FallingBlocks();
        for (String call : calls) {
            Script.make(game, call);
        }
        List<String> told = new ArrayList<>();
        for (String call : ending) {
            told.add(call + ": " + Script.make(game, call));
        }
        for (String call : everything()) {
            told.add(call + ": " + Calls.answer(game, call));
        }
        return told;
    }

    private static List<String> everything() {
        List<String> calls = new ArrayList<>(List.of("isOver()", "held()", "meanFaults()", "faultPosition()", "placements()",
                "placement(0,1)", "placement(0,4)"));
        int[] counts = {9, 5, 7, 9, 7};
        String[] names = {"piece", "next", "figure", "statistic", "latest"};
        for (int i = 0; i < names.length; i++) {
            for (int what = 0; what < counts[i]; what++) {
                calls.add(names[i] + "(" + what + ")");
            }
        }
        for (int cell = 0; cell < 220; cell++) {
            calls.add("cell(" + cell % 10 + "," + cell / 10 + ")");
        }
        for (int sort = 0; sort < 15; sort++) {
            calls.add("clears(" + sort % 5 + "," + sort / 5 + ")");
        }
        calls.add("set(0,5)");
        calls.add("set(1,8)");
        return calls;
    }
}
