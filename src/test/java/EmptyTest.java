import java.util.List;

/** Where something is missing: variables, constraints, an exploration, states, successors. */
public final class EmptyTest {
    private static final List<String> QUESTIONS = List.of("isComplete()", "firstCount()",
            "value(0, 0)", "direction(0, 0)", "isInstant(0)", "successorCount(0)",
            "successor(0, 0)", "distance(0)", "isAtRest(0)", "endCount()", "soonest(0, 0)",
            "hasCycle()", "ways(0)", "rest()");

    public static void main(String[] args) {
        newObject();
        noVariables();
        nothingGiven();
        noConstraint();
        noExploration();
        noStates();
        noStatesForOtherReasons();
        noSuccessors();
        valueOfNoState();
        noRest();
        Check.end();
    }

    private static void newObject() {
        Check.about("Creates a simulator without variables and constraints.");
        Run.of().due("variableCount()", 0).due("isExplored()", false).due("open()", 0)
                .due("sign(0, 0)", Run.INDEX).due("give(0, -1, 2)", Run.INDEX)
                .due("addConstraint(CONSTANT, 0, 0, 0)", Run.INDEX)
                .due("dropConstraint()", Run.STATE).due("digest()", 131 * 31 * 31);
        Run.of().due("addVariable(2, 0)", 0).due("addConstraint(CONSTANT, 0, 0, 0)", 0);
    }

    /** The one instant, and the span after it, to which all of no variables can change. */
    private static void noVariables() {
        Check.about("(Without variables this is one instant, which has no values.)");
        Run run = Run.of().due("explore()", 2).due("isExplored()", true).due("isComplete()", true);
        run.due("firstCount()", 1).due("isInstant(0)", true).due("isInstant(1)", false);
        run.due("value(0, 0)", Run.INDEX).due("direction(0, 0)", Run.INDEX);
        run.due("soonest(0, 0)", Run.INDEX).due("isInstant(2)", Run.INDEX);
        run.due("distance(0)", 0).due("distance(1)", 1);
        run.due("successorCount(0)", 1).due("successor(0, 0)", 1);
        run.due("isAtRest(0)", true).due("isAtRest(1)", true).due("rest()", 1.0);
        run.due("ways(0)", 1).due("ways(1)", 1).due("ways(2)", 0).due("ways(100)", 0);
        run.due("digest()", (((131L * 31 * 31 * 31 + 2) * 31) + 1) * 31);
        Check.about("(An instant that has the same values and directions as the span before it"
                + " is none of its successors.)");
        run.due("successorCount(1)", 0).due("successor(1, 0)", Run.INDEX);
        run.due("endCount()", 1).due("hasCycle()", false);
    }

    private static void nothingGiven() {
        Check.about("For each variable a value and a direction can be given, or left open"
                + " (both are open at first).");
        Run run = Run.of("addVariable(2, 0)", "addVariable(2, 1)");
        run.due("give(0, -1, 2)", false).due("give(1, -1, 2)", false).and("explore()");
        run.due("firstCount()", 81);
        Check.about("the given value (-1 if it is open) and the given direction (2 if it is open)");
        Run.of("addVariable(3, 1)").due("digest()",
                (((((131L * 31 + 1) * 31 + 3) * 31 + 1) * 31 - 1) * 31 + 2) * 31);
        Check.about("Adds a variable, whose value and direction are open.");
        Run added = Run.of("addVariable(2, 0)", "give(0, 1, 1)", "addVariable(3, 0)");
        added.due("give(1, -1, 2)", false).and("explore()").due("firstCount()", 15);
        Check.about("Returns for how many variables something was given.");
        Run.of("addVariable(2, 0)").due("open()", 0).due("open()", 0);
        Run open = Run.of("addVariable(2, 0)", "addVariable(2, 0)", "addVariable(2, 0)");
        open.and("give(0, 1, 2)", "give(1, -1, 0)", "give(2, 1, 1)", "give(2, -1, 2)");
        open.due("open()", 2).due("open()", 0);
        open.and("give(0, 0, -1)", "give(0, 0, 2)").due("open()", 1);
        open.and("give(0, 0, -1)", "give(0, -1, -1)").due("open()", 1);
    }

    /** Without a constraint every state is allowed; the last one leaves nothing behind. */
    private static void noConstraint() {
        Check.about("It is allowed if all constraints allow it.");
        Run.of("addVariable(4, 0)").and("explore()").due("firstCount()", 21).due("explore()", 34);
        Check.about("Removes the constraint that was added last.");
        Run run = Run.of("addVariable(4, 0)", "addConstraint(CONSTANT, 0, 0, 0)", "explore()");
        run.due("firstCount()", 7).due("dropConstraint()", 0).due("explore()", 34);
        run.due("dropConstraint()", Run.STATE).due("firstCount()", 21);
        run.due("addConstraint(RATE, 0, 0, 0)", 0).and("explore()").due("firstCount()", 7);
    }

    private static void noExploration() {
        Check.about("if there is no exploration");
        Run run = Run.of("addVariable(2, 0)");
        for (String question : QUESTIONS) {
            run.due(question, Run.STATE).due("isExplored()", false);
        }
        // These answer without one, and make none.
        run.due("variableCount()", 1).due("sign(0, 1)", 1).due("isExplored()", false);
        run.due("digest()", (((((131L * 31 + 1) * 31 + 2) * 31) * 31 - 1) * 31 + 2) * 31);
        run.due("isExplored()", false).due("isComplete()", Run.STATE);
        Check.about("Explores, if there is no exploration.");
        run.due("explore()", 14).due("isExplored()", true).due("explore()", 14);
    }

    /** Each method that answers of an exploration, where it has no states. */
    private static void noStates() {
        Check.about("divided by the number of states; 0 if there are none");
        String[] plan = {"addVariable(3, 1)", "addConstraint(CONSTANT, 0, 0, 0)",
            "give(0, -1, 1)"};
        Run run = Run.of(plan);
        long unexplored = Long.parseLong(run.answer("digest()"));
        run.due("explore()", 0).due("isExplored()", true).due("explore()", 0);
        run.due("rest()", 0.0).due("isComplete()", true).due("firstCount()", 0);
        run.due("endCount()", 0).due("hasCycle()", false);
        run.due("ways(0)", 0).due("ways(1)", 0).due("ways(100)", 0);
        for (int value = 0; value <= 4; value++) {
            run.due("soonest(0, " + value + ")", -1);
        }
        for (String question : List.of("value(0, 0)", "direction(0, 0)", "isInstant(0)",
                "successorCount(0)", "successor(0, 0)", "distance(0)", "isAtRest(0)")) {
            run.due(question, Run.INDEX);
        }
        Run twin = Run.ofReference(250, plan).and("explore()");
        Check.same("everything", run.everything(), twin.everything());
        Check.about("if there is an exploration, the number of its states");
        run.due("digest()", unexplored * 31);
    }

    /** No first state: by the zeros of the variables, by what is given, after one with states. */
    private static void noStatesForOtherReasons() {
        Run zeros = Run.of("addVariable(2, 0)", "addVariable(2, 1)", "addVariable(2, 0)",
                "addConstraint(EQUAL, 0, 1, 0)", "give(0, 1, 2)");
        zeros.due("explore()", 0).due("rest()", 0.0).due("soonest(2, 2)", -1);
        Run later = Run.of("addVariable(3, 1)", "addConstraint(RATE, 0, 0, 0)");
        later.due("explore()", 5 + 3).due("give(0, 0, 1)", true).due("explore()", 0);
        later.due("value(0, 0)", Run.INDEX).due("rest()", 0.0).due("ways(0)", 0);
        later.due("endCount()", 0).due("hasCycle()", false).due("isComplete()", true);
        later.due("open()", 1).due("explore()", 5 + 3).due("firstCount()", 5);
    }

    private static void noSuccessors() {
        Check.about("Returns how many successors it has.");
        // Rising at the highest landmark, falling at the lowest.
        for (String given : List.of("give(0, 4, 1)", "give(0, 0, -1)")) {
            Run run = Run.of("addVariable(3, 1)", given).due("explore()", 1);
            run.due("successorCount(0)", 0).due("successor(0, 0)", Run.INDEX);
            run.due("ways(0)", 1).due("ways(1)", 0).due("hasCycle()", false);
            Check.about("Returns how many states have no successors.");
            run.due("endCount()", 1);
        }
        // Those that have successors are not counted.
        Run.of("addVariable(3, 1)", "give(0, 2, 0)", "addConstraint(CONSTANT, 0, 0, 0)")
                .due("explore()", 2).due("endCount()", 1).due("successorCount(0)", 1)
                .due("successorCount(1)", 0);
        // Of i(0,1), s(1,1), i(1,0), i(2,0), i(2,1) and so on just five end: i(2,1), i(0,-1) and
        // the spans that rest.
        Run.of("addVariable(2, 0)", "give(0, 0, 1)").due("explore()", 11).due("endCount()", 5);
    }

    private static void valueOfNoState() {
        Check.about("Returns the least distance of a state in which it has it;"
                + " -1 if it has it in none.");
        Run run = Run.of("addVariable(4, 0)", "addConstraint(CONSTANT, 0, 0, 0)", "give(0, 3, 0)");
        run.and("explore()");
        for (int value = 0; value <= 6; value++) {
            run.due("soonest(0, " + value + ")", value == 3 ? 0 : -1);
        }
        // It falls by a steady rate, so nothing above the start is met.
        Run falling = Run.of("addVariable(4, 0)", "addVariable(2, 1)",
                "addConstraint(RATE, 0, 1, 0)", "addConstraint(CONSTANT, 1, 0, 0)",
                "give(0, 3, 2)", "give(1, 1, 2)").and("explore()");
        falling.due("soonest(0, 0)", 4).due("soonest(0, 1)", 3).due("soonest(0, 2)", 2);
        falling.due("soonest(0, 3)", 0).due("soonest(0, 4)", -1).due("soonest(0, 6)", -1);
        falling.due("soonest(1, 0)", -1).due("soonest(1, 1)", 0).due("soonest(1, 2)", -1);
    }

    private static void noRest() {
        Check.about("Returns whether all directions in it are 0.");
        Run run = Run.of("addVariable(2, 0)", "addVariable(2, 0)", "give(0, 2, 1)",
                "give(1, 0, 0)");
        run.due("explore()", 1).due("isAtRest(0)", false).due("rest()", 0.0);
        run.and("give(0, 0, 0)", "give(1, 2, 1)").due("explore()", 1).due("isAtRest(0)", false);
        run.and("give(1, 0, -1)").due("explore()", 1).due("isAtRest(0)", false);
        run.and("give(1, 0, 0)", "addConstraint(CONSTANT, 0, 0, 0)",
                "addConstraint(CONSTANT, 1, 0, 0)").due("explore()", 2).due("rest()", 1.0);
    }
}
