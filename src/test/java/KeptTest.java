import java.util.List;

/** How long an exploration is kept. That it is kept over refused calls is in RefusalsTest. */
public final class KeptTest {
    private static final String[] PLAN = {"addVariable(2, 0)", "addVariable(3, 1)",
        "addConstraint(MATCH, 0, 1, 0)", "addConstraint(RATE, 0, 1, 0)", "give(0, 0, 2)",
        "give(1, -1, 1)"};

    public static void main(String[] args) {
        endsWithEachChange();
        endsIfNothingChanges();
        keptOverQuestions();
        nextExplorationIsAnew();
        Check.end();
    }

    private static void ends(String call, Object answer) {
        Run run = Run.of(PLAN).and("explore()").due("isExplored()", true);
        run.due(call, answer).due("isExplored()", false).due("isComplete()", Run.STATE);
        run.due("rest()", Run.STATE).due("value(0, 0)", Run.STATE);
        // The digest tells of no states any more.
        Run twin = Run.of(PLAN).and(call);
        Check.same("digest() after " + call, run.answer("digest()"), twin.answer("digest()"));
        Check.same("explore() after " + call, run.answer("explore()"), twin.answer("explore()"));
        Check.same("everything after " + call, run.everything(), twin.everything());
    }

    private static void endsWithEachChange() {
        Check.about("An exploration is kept until the next call of addVariable, addConstraint,"
                + " dropConstraint, give or open that throws no exception");
        ends("addVariable(2, 0)", 2);
        ends("addConstraint(CONSTANT, 1, 0, 0)", 2);
        ends("dropConstraint()", 1);
        ends("give(0, 2, 2)", true);
        ends("give(1, 3, 1)", true);
        ends("give(1, -1, 0)", true);
        ends("open()", 2);
    }

    private static void endsIfNothingChanges() {
        Check.about("(also if it changes nothing)");
        ends("give(0, 0, 2)", false);
        ends("give(1, -1, 1)", false);
        ends("addConstraint(RATE, 0, 1, 0)", 2);
        Run none = Run.of("addVariable(2, 0)", "explore()");
        none.due("open()", 0).due("isExplored()", false).due("explore()", 14);
        none.due("give(0, -1, 2)", false).due("isExplored()", false);
        Run.of("explore()").due("open()", 0).due("isExplored()", false).due("explore()", 2);
    }

    private static void keptOverQuestions() {
        Run run = Run.of(PLAN).and("explore()");
        String before = run.everything();
        for (String question : List.of("variableCount()", "sign(0, 1)", "explore()",
                "isExplored()", "isComplete()", "firstCount()", "value(0, 1)", "direction(1, 0)",
                "isInstant(0)", "successorCount(0)", "successor(1, 0)", "distance(1)",
                "isAtRest(1)", "endCount()", "soonest(0, 2)", "hasCycle()", "ways(7)", "ways(100)",
                "rest()", "digest()")) {
            run.and(question).due("isExplored()", true);
            Check.same("everything after " + question, run.everything(), before);
        }
    }

    /** Nothing of one exploration is left in the next, whether that is larger or smaller. */
    private static void nextExplorationIsAnew() {
        Check.about("Explores, if there is no exploration.");
        List<String> changes = List.of("addVariable(4, 0)", "addVariable(4, 3)", "open()",
                "give(0, 3, 0)", "addConstraint(MATCH, 0, 1, 0)",
                "addConstraint(CONSTANT, 0, 0, 0)", "give(1, 6, 1)", "open()", "dropConstraint()",
                "dropConstraint()", "give(1, 0, -1)", "give(0, 6, -1)", "addVariable(2, 1)",
                "addConstraint(SUM, 0, 1, 2)", "open()", "addVariable(3, 0)",
                "addConstraint(OPPOSITE, 3, 2, 0)", "give(2, 2, 0)", "give(0, 1, 1)");
        Run run = Run.of();
        for (int made = 1; made <= changes.size(); made++) {
            run.and(changes.get(made - 1), "explore()");
            // The same changes with no exploration between them.
            Run twin = Run.of(changes.subList(0, made).toArray(new String[0])).and("explore()");
            Check.same("everything after change " + made, run.everything(), twin.everything());
        }
    }
}
