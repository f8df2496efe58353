/** Tests of the rules that the document tells under "Description", from "Input texts" to "In doubt", at their boundaries. */
final class DoubtCases {
    private static final String STATE = "IllegalStateException";
    private static final String ARGUMENT = "IllegalArgumentException";
    private static final String NONE = "NoSuchElementException";
    private static final String UNSUPPORTED = "UnsupportedOperationException";

    private DoubtCases() {
    }

    static void all() {
        texts();
        letters();
        digits();
        otherSigns();
        records();
        recordsOfHolds();
        recordsKept();
        textsAreNoPartOfTheGame();
        rowsOfBoxes();
        limits();
        inputsThatFail();
        holdsLeftOut();
        settings();
    }

    private static void texts() {
        String text = "A text of inputs consists of one or more commands without anything between them.";
        Script.of("Input texts", text).due("play()", ARGUMENT, "faultPosition()", "0", "play l", "1", "faultPosition()", "-1",
                "piece(2)", "2", "play lr", "2", "play r l", ARGUMENT, "faultPosition()", "1", "piece(2)", "2",
                "play l,l", ARGUMENT, "faultPosition()", "1", "play  l", ARGUMENT, "faultPosition()", "0",
                "play l ", ARGUMENT, "faultPosition()", "1", "play l\n", ARGUMENT, "faultPosition()", "1", "piece(7)", "3");
    }

    private static void letters() {
        String command = "A command is one of the letters l and r for a shift to the left and to the right, L and R for";
        String[][] due = {
            {"l", "2", "19", "0", "1"}, {"r", "4", "19", "0", "1"}, {"L", "0", "19", "0", "1"}, {"R", "7", "19", "0", "1"},
            {"c", "3", "19", "1", "1"}, {"a", "3", "19", "3", "1"}, {"d", "3", "18", "0", "0"}, {"t", "3", "19", "0", "0"},
        };
        for (String[] line : due) {
            Script.of("Input texts", command).due("play " + line[0], "1", "piece(2)", line[1], "piece(3)", line[2],
                    "piece(1)", line[3], "piece(7)", line[4], "piece(4)", line[0].equals("t") ? "1" : "0",
                    "statistic(8)", line[0].equals("t") ? "1" : "0", "statistic(0)", line[0].equals("d") ? "1" : "0",
                    "statistic(3)", "0", "held()", NONE, "piece(0)", "3");
        }
        Script.of("Input texts", command).due("play x", "1", "statistic(3)", "1", "statistic(0)", "40", "held()", NONE,
                "piece(0)", "5");
        Script.of("Input texts", command).due("play h", "1", "statistic(3)", "0", "held()", "3", "piece(0)", "5");
    }

    /** The digits from 2 to 9 tell how often; 0 and 1 are none. */
    private static void digits() {
        String digit = "possibly after one digit from 2 to 9 that tells how often it is carried out";
        for (char times = '2'; times <= '9'; times++) {
            Script script = Script.of("Input texts", digit);
            for (char letter : "lrLRcadt".toCharArray()) {
                int inputs = script.number("piece(7)");
                script.due("play " + times + letter, "" + times, "piece(7)", "" + (inputs
                        + (letter == 'd' || letter == 't' ? 0 : times - '0')), "faultPosition()", "-1");
            }
            script.due("piece(3)", "" + ('9' - times + 10), "statistic(8)", "" + times, "play " + times + "h", "1",
                    "piece(0)", "5");
            Script.of("Input texts", digit).due("play " + times + "x", "" + times, "statistic(3)", "" + times,
                    "play " + times, ARGUMENT, "faultPosition()", "1", "play " + times + times + "l", ARGUMENT,
                    "faultPosition()", "1", "play l" + times, ARGUMENT, "faultPosition()", "2", "piece(7)", "0");
        }
        Script.of("Input texts", digit).due("play 1l", ARGUMENT, "faultPosition()", "0", "play 0l", ARGUMENT,
                "faultPosition()", "0", "play 21l", ARGUMENT, "faultPosition()", "1", "play 20l", ARGUMENT,
                "faultPosition()", "1", "play 2l1", ARGUMENT, "faultPosition()", "2", "piece(7)", "0");
    }

    private static void otherSigns() {
        String letters = "lrLRcadxht";
        for (int sign = 0; sign < 300; sign++) {
            boolean isLetter = letters.indexOf(sign) >= 0;
            boolean isDigit = sign >= '2' && sign <= '9';
            Script script = Script.of("Promise 30", "the index of its first character that cannot continue a text of inputs");
            script.game.append((char) sign);
            script.due("play()", isLetter ? "1" : ARGUMENT, "faultPosition()", isLetter ? "-1" : isDigit ? "1" : "0");
            if (!isLetter) {
                script.game.append('3');
                script.game.append((char) sign);
                script.due("play()", ARGUMENT, "faultPosition()", "1");
            }
        }
    }

    private static void records() {
        String recorded = "When a piece has appeared, the game at that moment is recorded, without the lock delay and the";
        Script.of("Undo", recorded).after("set(0,7)", "set(1,3)", "garbage(1,4)", "drop()", "set(0,9)", "set(1,4)").due(
                "undo()", "1", "figure(0)", "0", "set(0,5)", "9", "set(1,8)", "4");
        // Inputs, falls, ticks, garbage and points since the piece appeared are gone; those before are not.
        String[] before = {"start(5)", "play lcx", "tick(13)", "garbage(2,6)", "fall()", "play 2rax"};
        String[] since = {"play hl", "tick(25)", "fall()", "garbage(3,1)", "rotate(1)", "drop()"};
        RefusalCases.same(Script.of("Undo", recorded).and("Undo", "Undoing goes back to a record."), before,
                RefusalCases.joined(before, since, "undo()", "undo()"));
        // A record is the same however often one goes back to it.
        RefusalCases.same(Script.of("Undo", "Undoing goes back to a record."), before, RefusalCases.joined(before, since,
                "undo()", "undo()", "garbage(1,1)", "play lx", "undo()", "placeBest()", "drop()", "undo()", "undo()"));
        // Rows, combos and hard clears since then are gone, too: neither 50 for a combo nor 3 / 2 for a hard clear.
        String[] wells = {"start(13)", "play Lxx", "play Lxx", "play Lxx"};
        String[] four = {"garbage(4,9)", "garbage(4,9)", "play cRx"};
        Script.of("Undo", recorded).after(wells).after(four).after("play cRx").due("statistic(2)", "8", "statistic(4)", "1",
                "statistic(5)", "1", "latest(3)", "1250", "undo()", "5", "statistic(2)", "4", "statistic(4)", "0",
                "statistic(5)", "0", "latest(3)", "800", "undo()", "4", "statistic(2)", "0", "statistic(4)", "-1",
                "statistic(5)", "-1").after(four).due("latest(3)", "800", "latest(6)", "0", "statistic(4)", "0",
                "statistic(5)", "0");
        // The lowest row of the piece is that of the record, not of what it did since.
        Script.of("Undo", recorded).after("start(8)", "drop()", "play Lx", "play R9d9d2d").due("piece(3)", "-1", "undo()", "2",
                "piece(0)", "3").after("play r9d9d", "tick(3)").due("piece(8)", "0", "2 shift(1)", "true", "piece(6)", "2",
                "fall()", "true", "piece(3)", "0", "piece(5)", "0", "piece(6)", "0");
        // The first piece of a game is recorded, too, and the one that appears in a tick.
        Script.of("Undo", recorded).after("tick(200)", "tick(4)").due("statistic(3)", "0", "tick(1)", "1", "undo()", "1",
                "statistic(8)", "0", "piece(0)", "3", "piece(3)", "19");
    }

    private static void recordsOfHolds() {
        String used = "A record also tells whether the hold was used.";
        Script.of("Undo", used).after("hold()", "drop()").due("undo()", "2", "held()", "3", "piece(0)", "5", "hold()",
                UNSUPPORTED, "undo()", "1", "held()", NONE, "hold()", "-1", "drop()", "0", "hold()", "3", "undo()", "3",
                "hold()", "3", "undo()", "3", "undo()", "2", "hold()", UNSUPPORTED);
        Script.of("In doubt", "A piece that appears by hold is recorded, too.").due("hold()", "-1", "undo()", "1",
                "piece(0)", "3", "held()", NONE, "next(0)", "5", "hold()", "-1", "drop()", "0", "hold()", "3",
                "piece(0)", "3", "undo()", "3", "piece(0)", "4", "held()", "3", "undo()", "2", "piece(0)", "5");
        // One that appears by hold and does not fit is not: there is nothing but the record of the piece put away.
        Script.of("In doubt", "A piece that appears by hold is recorded, too.").after("start(0)", "play Lx",
                "garbage(4,0)", "garbage(4,0)", "garbage(4,0)", "garbage(4,0)", "garbage(4,0)", "hold()").due("isOver()",
                "true", "undo()", "2", "piece(0)", "1", "held()", NONE, "next(0)", "5", "figure(0)", "4", "undo()", "1");
    }

    private static void recordsKept() {
        String kept = "the latest 6 records are kept";
        Script.of("Undo", kept).due("undo()", UNSUPPORTED, "drop()", "0", "undo()", "1", "undo()", UNSUPPORTED);
        // Six pieces: back to the first; seven pieces: the first is forgotten.
        Script.of("Undo", kept).after("play LxRxLxRxLx").due("undo()", "5", "undo()", "4", "undo()", "3", "undo()", "2",
                "undo()", "1", "piece(0)", "3", "statistic(3)", "0", "undo()", UNSUPPORTED);
        Script.of("In doubt", "After seven pieces, five can be undone.").and("Undo", kept).after("play LxRxLxRxLxRx").due(
                "statistic(3)", "6", "undo()", "5", "undo()", "4", "undo()", "3", "undo()", "2", "undo()", "1",
                "piece(0)", "5", "statistic(3)", "1", "undo()", UNSUPPORTED, "piece(0)", "5");
        // Also long after, and with some of the places used again.
        Script.of("Undo", kept).after("play 2rx2lxLxRxx", "play 2rx2lxLxRxx", "play Lx").due("statistic(3)", "11", "undo()",
                "5", "undo()", "4", "statistic(3)", "9").after("play LxRx").due("undo()", "5", "undo()", "4", "undo()", "3",
                "undo()", "2", "undo()", "1", "statistic(3)", "6", "undo()", UNSUPPORTED);
        // Pieces by hold take places, too.
        Script.of("Undo", kept).after("play hxhxhx").due("undo()", "5", "undo()", "4", "undo()", "3", "undo()", "2",
                "undo()", "1", "piece(0)", "5", "held()", "3", "hold()", UNSUPPORTED, "undo()", UNSUPPORTED);
    }

    private static void textsAreNoPartOfTheGame() {
        String texts = "The text buffer and the fault position belong neither to a record nor to a snapshot, and a new game";
        Script.of("Undo", texts).due("play l?", ARGUMENT, "type l", "", "drop()", "0", "type r2", "", "undo()", "1",
                "faultPosition()", "1", "type r", "", "play()", "4", "piece(2)", "5", "faultPosition()", "-1");
        Script.of("Undo", texts).due("type ll", "", "play ?", ARGUMENT, "type l", "", "save()", "", "type l", "",
                "restore()", "", "faultPosition()", "2", "type l", "", "play()", "3", "piece(2)", "0", "restore()", "",
                "faultPosition()", "-1", "play()", ARGUMENT, "faultPosition()", "0");
        Script.of("Undo", texts).due("play 2", ARGUMENT, "type 2l", "", "start(1)", "3", "faultPosition()", "1",
                "play()", "2", "piece(2)", "1", "faultPosition()", "-1", "start(1)", "3", "faultPosition()", "-1");
    }

    private static void rowsOfBoxes() {
        // The cells of kind 0 are in row 20 while its box is in row 18, and go below the field with it.
        Script.of("In doubt", "The row of a piece is that of its box").after("start(0)").due("piece(3)", "18",
                "covers(3,20)", "true", "covers(3,18)", "false", "20 fall()", "true", "piece(3)", "-2", "covers(3,0)", "true",
                "rotate(1)", "3", "piece(3)", "0", "covers(5,0)", "true", "covers(5,3)", "true");
        Script.of("In doubt", "a fall from the row at which it appeared is lower than ever before, too").after("drop()",
                "garbage(4,0)", "garbage(4,0)", "garbage(4,0)", "garbage(4,0)", "garbage(2,0)", "set(1,1)", "tick(3)").due(
                "piece(3)", "19", "slide(1)", "4", "piece(6)", "1", "piece(5)", "0", "fall()", "true", "piece(6)", "0");
    }

    private static void limits() {
        Script.of("In doubt", "With the reset limit reached, neither counter changes.").after("set(1,1)", "play 9d9d2d",
                "shift(1)", "tick(3)").due("piece(6)", "1", "shift(1)", "true", "piece(5)", "3", "piece(6)", "1",
                "rotate(1)", "3", "piece(5)", "3", "piece(6)", "1", "slide(-1)", "6", "piece(5)", "3", "piece(6)", "1",
                "tick(2)", "1");
        Script.of("In doubt", "With the reset limit reached, neither counter changes.").after("play 9d9d2d", "set(1,0)",
                "tick(4)").due("shift(1)", "true", "piece(5)", "4", "piece(6)", "0", "tick(1)", "1");
        // The limit is below what was reached: still neither changes, and above it again, both do.
        Script.of("In doubt", "With the reset limit reached, neither counter changes.").after("play 9d9d2d3rl", "tick(2)",
                "set(1,2)").due("piece(6)", "4", "shift(-1)", "true", "piece(5)", "2", "piece(6)", "4", "set(1,5)", "2",
                "shift(-1)", "true", "piece(5)", "0", "piece(6)", "5", "tick(2)", "0", "shift(-1)", "true",
                "piece(5)", "2", "piece(6)", "5");
    }

    private static void inputsThatFail() {
        Script.of("In doubt", "A drop by no row leaves a rotation as the last move.").after("start(21)", "play Lx",
                "play 3l9d9d", "rotate(1)").due("piece(8)", "0", "drop()", "0", "latest(2)", "1", "latest(3)", "100");
        Script.of("In doubt", "A drop by no row leaves a rotation as the last move.").after("start(198)",
                "play aR3lx", "play aRx", "play 3r9d7d", "rotate(1)", "fall()").due("piece(8)", "1", "drop()", "0",
                "latest(2)", "0", "latest(3)", "0");
        String input = "A rotation that fails is an input all the same; one of kind 1 succeeds with kick 0.";
        Script.of("In doubt", input).after("start(0)", "play cR9d9d", "garbage(4,9)").due("rotate(1)", "-1", "piece(7)", "3",
                "rotate(-1)", "-1", "piece(7)", "4", "play c", "1", "piece(7)", "5", "drop()", "4", "latest(4)", "5",
                "statistic(6)", "3");
        Script.of("In doubt", input).after("start(8)", "play 9d9d2d", "tick(3)").due("rotate(1)", "0", "piece(7)", "1",
                "piece(1)", "1", "piece(5)", "0", "piece(6)", "1", "rotate(-1)", "0", "piece(6)", "2");
    }

    private static void holdsLeftOut() {
        String on = "An entry of commands goes on behind a hold that is left out.";
        Script.of("In doubt", on).and("Promise 29", "A hold that cannot be used is left out and not counted.").due(
                "play hhl", "2", "piece(2)", "2", "held()", "3", "piece(0)", "5", "play hl", "1", "piece(2)", "1",
                "play h", "0", "piece(7)", "2", "faultPosition()", "-1", "play 9h", "0", "play 9hr", "1", "piece(2)", "2",
                "play xhr", "3", "held()", "4", "piece(0)", "3", "piece(2)", "4");
        // Each one of several holds is asked for itself: a lock makes the next one possible.
        Script.of("In doubt", on).due("play 2h", "1", "play h2xhh", "3", "held()", "6", "piece(0)", "3");
        Script.of("In doubt", "A text that is wrong is refused also if the game is over.").after("start(8)", "garbage(4,0)",
                "garbage(4,0)", "garbage(4,0)", "garbage(4,0)", "garbage(4,0)", "drop()").due("isOver()", "true",
                "play l?", ARGUMENT, "faultPosition()", "1", "play()", ARGUMENT, "faultPosition()", "0", "play l", STATE,
                "faultPosition()", "-1");
    }

    private static void settings() {
        String once = "Settings hold at once.";
        Script.of("In doubt", once).after("play 9d9d2d", "set(0,30)", "tick(7)", "set(0,8)").due("tick(1)", "1");
        Script.of("In doubt", once).after("play 9d9d2d", "tick(3)", "set(1,0)").due("shift(1)", "true", "piece(5)", "3",
                "piece(6)", "0", "set(1,1)", "0", "shift(1)", "true", "piece(5)", "0", "piece(6)", "1");
        // The set values stay for the pieces and games that follow.
        Script.of("In doubt", once).after("set(0,1)", "drop()", "play 9d9d", "start(3)", "play 9d9d2d").due("tick(1)", "1");
    }
}
