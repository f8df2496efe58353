import java.util.Set;

/**
 * Tests each sentence of the document, first of all those that name a boundary case. A test cites the sentence that it
 * tests, and a sentence that no test cites fails this one, unless it is among those that say nothing of their own.
 */
public final class BoundaryTest {
    /** Headings, and what the sentences beside them say as well. */
    private static final Set<String> WITHOUT_TEST = Set.of("The game.", "Inputs.", "Figures.", "Searches.",
            "Texts, undo and snapshot.", "Returns the number.", "Returns the kind.", "Returns the figure.",
            "Returns the height.", "Returns the statistic.", "Returns the number of pieces.", "Returns whether it is over.",
            "Returns a number about the present piece.", "Returns a statistic of the game.",
            "Returns a number about a placement of the present piece.", "Shifts the present piece.",
            "Slides the present piece.", "Rotates the present piece.",
            "Returns the mean number of faults of all pieces locked.", "- `value`: the value", "- `column`: the column",
            "- `row`: the row", "- `hole`: the column", "- `kind`: the kind", "- `state`: the state", "- `c`: the character");

    private BoundaryTest() {
    }

    public static void main(String[] args) {
        RuleCases.all();
        DoubtCases.all();
        PromiseCases.all();
        RefusalCases.all();
        int uncited = 0;
        for (String sentence : Document.uncited()) {
            if (!WITHOUT_TEST.contains(sentence.substring(sentence.indexOf(": ") + 2))) {
                uncited++;
                System.out.println("no test cites " + sentence);
            }
        }
        if (Script.wrong + uncited > 0) {
            System.out.println("BoundaryTest: " + Script.wrong + " answers are wrong");
            System.exit(1);
        }
    }
}
