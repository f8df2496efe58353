import java.util.ArrayDeque;
import java.util.ArrayList;
import java.util.HashMap;
import java.util.List;
import java.util.Map;
import java.util.Random;
import java.util.TreeSet;

/**
 * Plays many games with the program and with the slow model and compares each answer. The games are drawn from fixed
 * seeds, so that each run of the test is the same; what they must have come across is listed in NEEDED.
 */
public final class ModelTest {
    private static final int GAMES = 1000;
    private static final int CALLS = 512;

    private static final List<String> NEEDED = new ArrayList<>();
    private static final TreeSet<String> SEEN = new TreeSet<>();
    private static int wrong = 0;

    private final Random random;
    private final FallingBlocks program = new FallingBlocks();
    private final Model model = new Model();
    private final List<String> made = new ArrayList<>();

    private ModelTest(int seed) {
        random = new Random(seed);
    }

    public static void main(String[] args) {
        for (int game = 0; game < GAMES; game++) {
            new ModelTest(game).play(game % 10);
        }
        new ModelTest(0).askLeastInputs();
        new ModelTest(0).askForExtremes();
        listNeeded();
        for (String needed : NEEDED) {
            if (!SEEN.contains(needed)) {
                wrong++;
                System.out.println("ModelTest: no game came across: " + needed);
            }
        }
        if (wrong > 0) {
            System.exit(1);
        }
    }

    private static void listNeeded() {
        for (int rows = 0; rows <= 4; rows++) {
            NEEDED.add("lock with " + rows + " rows, spin 0");
        }
        NEEDED.addAll(List.of("lock with 0 rows, spin 1", "lock with 1 rows, spin 1", "lock with 0 rows, spin 2",
                "lock with 1 rows, spin 2", "small spin, kick 0", "small spin, kick 1", "small spin, kick 3",
                "full spin, kick 0", "full spin, kick 2", "raised spin, kick 6", "raised spin, kick 7",
                "no spin, kick 0", "no spin, kick 4", "no spin, kick 7"));
        for (int level = 2; level <= 10; level++) {
            NEEDED.add("level " + level);
        }
        for (String direction : new String[] {"1", "-1"}) {
            for (int kick = -1; kick <= 8; kick++) {
                NEEDED.add("rotate " + direction + ", kick " + kick);
            }
            for (int kick = -1; kick <= 4; kick++) {
                NEEDED.add("rotate the long kind " + direction + ", kick " + kick);
            }
        }
        NEEDED.addAll(List.of("raised clear", "raised clear with a spin", "empty field", "reset limit reached",
                "over after a lock in the rows 20 and 21", "over after a lock below", "over by hold",
                "garbage refused for a filled cell", "garbage refused for the piece", "undo of the end",
                "undo with 6 records", "undo without a record", "hold left out", "lower row by a kick"));
    }

    private void play(int style) {
        call("start(" + random.nextInt(style == 0 ? Integer.MAX_VALUE : 50) + ")");
        while (made.size() < CALLS) {
            int choice = random.nextInt(100);
            switch (style) {
                case 0 -> anyCall();
                case 1 -> inputs(choice);
                case 2 -> builds(choice);
                case 3 -> spins(choice);
                case 4 -> texts(choice);
                case 5 -> endings(choice);
                case 6 -> kicks(choice);
                case 7 -> wells(choice);
                default -> spins(choice);
            }
            if (choice % 3 == 0) {
                look();
            }
        }
    }

    /** Makes a call of both; after the last promised one, none is made any more. */
    private void call(String call) {
        if (made.size() >= CALLS) {
            return;
        }
        int locks = model.s.locks.size();
        boolean wasOver = model.s.over;
        int lowest = model.s.lowest;
        int kind = model.s.body.kind();
        String due = Calls.answer(model, call);
        String got = Calls.answer(program, call);
        made.add(call);
        if (!got.equals(due)) {
            wrong++;
            System.out.println("ModelTest: " + call + " answered " + got + ", due is " + due + ", after " + made);
            System.exit(1);
        }
        if (model.s.locks.size() > locks) {
            noteLocks(locks);
        }
        noteCall(call, due, wasOver, lowest, kind, model.s.locks.size() > locks);
    }

    private void noteLocks(int before) {
        for (int[] lock : model.s.locks.subList(before, model.s.locks.size())) {
            SEEN.add("lock with " + lock[1] + " rows, spin " + lock[2]);
            if (lock[6] == 1) {
                SEEN.add(lock[2] > 0 ? "raised clear with a spin" : "raised clear");
            }
        }
        if (model.s.field.isEmpty() && model.latest(1) > 0) {
            SEEN.add("empty field");
        }
        SEEN.add("level " + model.level());
        SEEN.add(model.latestSpin);
    }

    private void noteCall(String call, String answer, boolean wasOver, int lowest, int kind, boolean locked) {
        if (call.startsWith("rotate") && answer.length() <= 2) {
            String direction = call.substring(7, call.length() - 1);
            if (kind != 1) {
                SEEN.add((kind == 0 ? "rotate the long kind " : "rotate ") + direction + ", kick " + answer);
            }
            if (model.s.lowest < lowest) {
                SEEN.add("lower row by a kick");
            }
        }
        if (model.s.over && !wasOver) {
            if (locked) {
                boolean above = model.s.body.cells().first().row() >= 20
                        && model.s.field.keySet().containsAll(model.s.body.cells());
                SEEN.add(above ? "over after a lock in the rows 20 and 21" : "over after a lock below");
            } else if (call.equals("hold()")) {
                SEEN.add("over by hold");
            }
        }
        if (call.startsWith("garbage") && answer.equals("UnsupportedOperationException")) {
            int rows = call.charAt(8) - '0';
            SEEN.add(model.figure(3) + rows > 22 ? "garbage refused for a filled cell" : "garbage refused for the piece");
        }
        if (call.equals("undo()")) {
            SEEN.add(answer.startsWith("U") ? "undo without a record" : wasOver ? "undo of the end" : "undo");
            if (answer.equals("5")) {
                SEEN.add("undo with 6 records");
            }
        }
        if (!model.s.over && model.s.resetCounter == model.resetLimit()) {
            SEEN.add("reset limit reached");
        }
    }

    private void inputs(int choice) {
        if (choice < 20) {
            call("shift(" + direction() + ")");
        } else if (choice < 28) {
            call("slide(" + direction() + ")");
        } else if (choice < 55) {
            call("rotate(" + direction() + ")");
        } else if (choice < 65) {
            call("fall()");
        } else if (choice < 70) {
            call("tick(" + (1 + random.nextInt(12)) + ")");
        } else if (choice < 77) {
            sink();
        } else if (choice < 83) {
            call("drop()");
        } else if (choice < 86) {
            call("hold()");
        } else if (choice < 90) {
            call("garbage(" + (1 + random.nextInt(2)) + "," + random.nextInt(10) + ")");
        } else if (choice < 92) {
            call("set(" + random.nextInt(2) + "," + (1 + random.nextInt(20)) + ")");
        } else {
            memory(choice);
        }
        startAgainIfOver();
    }

    /** Lets the piece sink to the ground without locking, as falls. */
    private void sink() {
        if (!model.s.over) {
            type(repeated('d', model.piece(8)));
        }
    }

    private void builds(int choice) {
        if (choice < 90) {
            call("placeBest()");
        } else if (choice < 94) {
            call("garbage(" + (1 + random.nextInt(3)) + "," + random.nextInt(10) + ")");
        } else if (choice < 97) {
            inputs(random.nextInt(60));
        } else {
            memory(random.nextInt(100));
        }
        startAgainIfOver();
    }

    private void spins(int choice) {
        boolean canSpin = !model.s.over && model.s.body.kind() == 2;
        boolean mustClear = random.nextInt(3) > 0;
        int leastKick = mustClear ? 0 : random.nextInt(9);
        String text = canSpin ? textTo((after, direction, kick) -> kick >= leastKick && !model.fits(after.lower())
                && model.spinOf(after, kick) > 0 && (!mustClear || fillsRow(after))) : "";
        if (!text.isEmpty() && choice < 85) {
            type(text + (choice < 70 ? "x" : ""));
        } else if (choice < 45) {
            call("placeBest()");
        } else if (choice < 65) {
            type((random.nextBoolean() ? "L" : "R") + repeated('l', random.nextInt(9)) + "cx");
        } else if (choice < 80) {
            call("garbage(1," + random.nextInt(10) + ")");
        } else if (choice < 90) {
            inputs(random.nextInt(100));
        } else {
            call("drop()");
        }
        startAgainIfOver();
    }

    private void kicks(int choice) {
        int wantedDirection = direction();
        int wantedKick = 3 + random.nextInt(6);
        String text = model.s.over || choice > 60 ? "" : textTo((after, direction, kick) ->
                direction == wantedDirection && kick == wantedKick);
        if (!text.isEmpty()) {
            type(text.substring(0, text.length() - 1));
            call("tick(2)");
            call("rotate(" + wantedDirection + ")");
            call("piece(5)");
            call("piece(6)");
        } else if (choice < 30) {
            type((random.nextBoolean() ? "L" : "R") + repeated('l', random.nextInt(9)) + "cx");
        } else if (choice < 50) {
            call("drop()");
        } else {
            inputs(random.nextInt(100));
        }
        startAgainIfOver();
    }

    private void texts(int choice) {
        StringBuilder text = new StringBuilder();
        int length = random.nextInt(choice < 5 ? 70 : 12);
        for (int i = 0; i < length; i++) {
            String signs = choice < 80 ? "lrLRcadxhttc" : choice < 95 ? "lrLRcadxht23456789" : "lrd2901hX \u00e9";
            if (choice < 80 && random.nextInt(4) == 0) {
                text.append((char) ('2' + random.nextInt(8)));
            }
            text.append(signs.charAt(random.nextInt(signs.length())));
        }
        type(text.toString());
        call("faultPosition()");
        if (random.nextInt(3) == 0) {
            memory(random.nextInt(100));
        }
        if (random.nextInt(3) == 0) {
            startAgainIfOver();
        }
    }

    private void endings(int choice) {
        if (choice < 25) {
            call("garbage(" + (1 + random.nextInt(4)) + "," + random.nextInt(10) + ")");
        } else if (choice < 45) {
            call("drop()");
        } else if (choice < 52) {
            call("hold()");
        } else if (choice < 60) {
            call("tick(" + (1 + random.nextInt(200)) + ")");
        } else if (choice < 66) {
            call("placeBest()");
        } else if (choice < 85) {
            inputs(random.nextInt(60));
        } else {
            memory(random.nextInt(100));
        }
        if (choice % 10 == 0) {
            startAgainIfOver();
        }
    }

    /** Keeps one column open for the long kind, so that there are clears of four rows in a row. */
    private void wells(int choice) {
        if (!model.s.over && model.s.body.kind() == 0) {
            call("placeBest()");
        } else if (choice < 55) {
            call("garbage(4,9)");
        } else if (choice < 85) {
            call("hold()");
        } else {
            call("placeBest()");
        }
        startAgainIfOver();
    }

    private void memory(int choice) {
        if (choice % 10 < 6) {
            call("undo()");
        } else if (choice % 10 < 8) {
            call("save()");
        } else {
            call("restore()");
        }
    }

    private void startAgainIfOver() {
        if (model.s.over) {
            look();
            call(random.nextBoolean() ? "undo()" : "start(" + random.nextInt(50) + ")");
        }
    }

    private void anyCall() {
        int number = random.nextInt(4);
        switch (random.nextInt(24)) {
            case 0 -> call("start(" + (random.nextInt(40) == 0 ? 5 : -1 - random.nextInt(3)) + ")");
            case 1 -> call("set(" + (random.nextInt(4) - 1) + "," + (random.nextInt(36) - 2) + ")");
            case 2 -> call("covers(" + (random.nextInt(12) - 1) + "," + (random.nextInt(24) - 1) + ")");
            case 3 -> call("cell(" + (random.nextInt(12) - 1) + "," + (random.nextInt(24) - 1) + ")");
            case 4 -> call("shift(" + (number - 2) + ")");
            case 5 -> call("slide(" + (number - 2) + ")");
            case 6 -> call("rotate(" + (number - 2) + ")");
            case 7 -> call("fall()");
            case 8 -> call("drop()");
            case 9 -> call("hold()");
            case 10 -> call("tick(" + (number == 0 ? random.nextInt(220) - 5 : 1 + random.nextInt(60)) + ")");
            case 11 -> call("garbage(" + random.nextInt(6) + "," + (random.nextInt(12) - 1) + ")");
            case 12 -> call("placeBest()");
            case 13 -> call("append('" + "lrLRcadxht29".charAt(random.nextInt(12)) + "')");
            case 14 -> call("play()");
            case 15 -> call("leastInputs(" + (random.nextInt(9) - 1) + "," + (random.nextInt(6) - 1) + ","
                    + (random.nextInt(16) - 4) + ")");
            case 16, 17 -> memory(random.nextInt(100));
            default -> look();
        }
    }

    private void askLeastInputs() {
        for (int kind = 0; kind < 7; kind++) {
            for (int state = 0; state < 4; state++) {
                for (int column = -4; column < 11; column++) {
                    call("leastInputs(" + kind + "," + state + "," + column + ")");
                }
            }
        }
    }

    private void askForExtremes() {
        call("placeBest()");
        for (String extreme : new String[] {"-2147483648", "2147483647", "2147483646", "-2147483647"}) {
            for (String call : new String[] {"set(#,5)", "set(0,#)", "set(1,#)", "piece(#)", "next(#)", "cell(#,0)",
                    "cell(0,#)", "covers(#,0)", "covers(0,#)", "shift(#)", "slide(#)", "rotate(#)", "tick(#)",
                    "garbage(#,0)", "garbage(1,#)", "figure(#)", "height(#)", "statistic(#)", "clears(#,0)",
                    "clears(0,#)", "latest(#)", "leastInputs(#,0,3)", "leastInputs(0,#,3)", "leastInputs(0,0,#)",
                    "placement(#,0)", "placement(0,#)", "start(#)"}) {
                call(call.replace("#", extreme));
            }
        }
    }

    private void look() {
        switch (random.nextInt(16)) {
            case 0 -> call("isOver()");
            case 1, 2 -> call("piece(" + (random.nextInt(11) - 1) + ")");
            case 3 -> call("next(" + (random.nextInt(7) - 1) + ")");
            case 4 -> call("held()");
            case 5 -> call("figure(" + (random.nextInt(9) - 1) + ")");
            case 6 -> call("height(" + (random.nextInt(12) - 1) + ")");
            case 7, 8 -> call("statistic(" + (random.nextInt(11) - 1) + ")");
            case 9 -> call("clears(" + (random.nextInt(7) - 1) + "," + (random.nextInt(5) - 1) + ")");
            case 10, 11 -> call("latest(" + (random.nextInt(9) - 1) + ")");
            case 12 -> call("meanFaults()");
            case 13 -> call("faultPosition()");
            case 14 -> call("placements()");
            default -> call("placement(" + (random.nextInt(50) - 1) + "," + (random.nextInt(10) - 1) + ")");
        }
    }

    private int direction() {
        return random.nextBoolean() ? 1 : -1;
    }

    private static String repeated(char command, int times) {
        StringBuilder text = new StringBuilder();
        for (int left = times; left > 0; left -= Math.min(left, 9)) {
            text.append(left == 1 ? "" : String.valueOf(Math.min(left, 9))).append(command);
        }
        return text.toString();
    }

    private void type(String text) {
        for (char c : text.toCharArray()) {
            call("append('" + c + "')");
        }
        boolean holdUsed = model.s.holdUsed;
        call("play()");
        if (holdUsed && text.startsWith("h")) {
            SEEN.add("hold left out");
        }
    }

    /** What a rotation is to have come to. */
    private interface Goal {
        boolean isReached(Model.Body after, int direction, int kick);
    }

    /** Returns commands for the present piece, the last of them a rotation that comes to the goal, or "". */
    private String textTo(Goal goal) {
        Map<Model.Body, String> texts = new HashMap<>();
        ArrayDeque<Model.Body> queue = new ArrayDeque<>();
        List<String> found = new ArrayList<>();
        texts.put(model.s.body, "");
        queue.add(model.s.body);
        while (!queue.isEmpty()) {
            Model.Body body = queue.remove();
            for (char command : "lrcad".toCharArray()) {
                int direction = command == 'l' || command == 'a' ? -1 : 1;
                boolean turns = command == 'c' || command == 'a';
                int kick = turns ? body.kickThatFits(direction, model::fits) : -1;
                Model.Body next = command == 'd' ? body.lower() : body.moved(direction, 0);
                if (turns) {
                    next = kick < 0 ? body : body.kicked(direction).get(kick);
                }
                if (turns && kick >= 0 && goal.isReached(next, direction, kick)) {
                    found.add(texts.get(body) + command);
                }
                if (model.fits(next) && texts.putIfAbsent(next, texts.get(body) + command) == null) {
                    queue.add(next);
                }
            }
        }
        String text = found.isEmpty() ? "" : packed(found.get(random.nextInt(found.size())));
        return text.length() < 59 ? text : "";
    }

    private boolean fillsRow(Model.Body body) {
        TreeSet<Model.Cell> filled = new TreeSet<>(model.s.field.keySet());
        filled.addAll(body.cells());
        for (int i = 0; i < 4; i++) {
            int row = body.row() + i;
            if (filled.stream().filter(cell -> cell.row() == row).count() == 10) {
                return true;
            }
        }
        return false;
    }

    private static String packed(String commands) {
        StringBuilder text = new StringBuilder();
        int from = 0;
        for (int i = 1; i <= commands.length(); i++) {
            if (i == commands.length() || commands.charAt(i) != commands.charAt(from)) {
                text.append(repeated(commands.charAt(from), i - from));
                from = i;
            }
        }
        return text.toString();
    }
}
