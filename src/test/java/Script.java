import java.util.ArrayList;
import java.util.List;

/** Calls of one new object with the answers that are due. */
final class Script {
    /** The document promises nothing about later calls. */
    private static final int CALL_LIMIT = 512;
    /** More is counted, but not told. */
    private static final int PRINT_LIMIT = 20;
    static int wrong = 0;

    final FallingBlocks game = new FallingBlocks();
    private String title;
    private final List<String> made = new ArrayList<>();

    Script(String title) {
        this.title = title;
    }

    /** Returns a script that tests a sentence of the document. */
    static Script of(String place, String words) {
        return new Script(Document.cite(place, words));
    }

    /** The script tests this sentence, too. */
    Script and(String place, String words) {
        title += "; " + Document.cite(place, words);
        return this;
    }

    /** Makes a call, or "play abc", or "type abc", and returns the answer to the last call. */
    static String make(FallingBlocks game, String call) {
        boolean plays = call.startsWith("play ");
        if (!plays && !call.startsWith("type ")) {
            return Calls.answer(game, call);
        }
        for (char c : call.substring(5).toCharArray()) {
            Calls.answer(game, "append('" + c + "')");
        }
        return plays ? Calls.answer(game, "play()") : "";
    }

    /** Makes calls that lead to what is tested; none of them may be refused. */
    Script after(String... calls) {
        for (String call : calls) {
            boolean plays = call.startsWith("play ");
            if (plays || call.startsWith("type ")) {
                type(call.substring(5));
            }
            String got = plays ? answer("play()") : call.startsWith("type ") ? "" : answer(call);
            if (got.endsWith("Exception")) {
                fail(call + " answered " + got);
            }
        }
        return this;
    }

    /**
     * Makes calls, each followed by the answer that is due. "type abc" appends these characters, "play abc" appends
     * them and calls play(), and "3 call" makes a call so often, with the answer due each time. A call that is refused
     * must leave the state as it was.
     */
    Script due(String... callsAndAnswers) {
        for (int i = 0; i + 1 < callsAndAnswers.length; i += 2) {
            String call = callsAndAnswers[i];
            if (call.startsWith("type ")) {
                type(call.substring(5));
            } else if (call.startsWith("play ")) {
                type(call.substring(5));
                one("play()", callsAndAnswers[i + 1]);
            } else if (Character.isDigit(call.charAt(0))) {
                int space = call.indexOf(' ');
                for (int j = 0; j < Integer.parseInt(call.substring(0, space)); j++) {
                    one(call.substring(space + 1), callsAndAnswers[i + 1]);
                }
            } else {
                one(call, callsAndAnswers[i + 1]);
            }
        }
        return this;
    }

    private void type(String text) {
        for (char c : text.toCharArray()) {
            one("append('" + c + "')", "");
        }
    }

    private void one(String call, String due) {
        boolean refused = due.endsWith("Exception");
        String before = refused ? state() : "";
        String got = answer(call);
        if (!got.equals(due)) {
            fail(call + " answered " + got + ", due is " + due);
        }
        if (refused && !state().equals(before)) {
            fail(call + " changed the state");
        }
    }

    String answer(String call) {
        made.add(call);
        if (made.size() == CALL_LIMIT + 1) {
            fail("more calls than the document promises");
        }
        return Calls.answer(game, call);
    }

    int number(String call) {
        String answer = answer(call);
        if (!answer.matches("-?\\d+")) {
            fail(call + " answered " + answer + ", due is a number");
            return 0;
        }
        return Integer.parseInt(answer);
    }

    void same(String what, Object got, Object due) {
        if (!got.equals(due)) {
            fail(what + " is " + got + ", due is " + due);
        }
    }

    private void fail(String text) {
        wrong++;
        if (wrong <= PRINT_LIMIT) {
            System.out.println(title + ": " + text + "; calls: " + made);
        }
    }

    /** Returns some answers that tell of the state. */
    private String state() {
        StringBuilder text = new StringBuilder();
        for (String call : new String[] {"isOver()", "piece(0)", "piece(2)", "piece(3)", "piece(6)", "piece(7)",
                "next(0)", "held()", "figure(0)", "statistic(0)", "statistic(3)", "statistic(8)"}) {
            text.append(answer(call)).append(' ');
        }
        return text.toString();
    }
}
