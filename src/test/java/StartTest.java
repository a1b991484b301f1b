/** What is given for the start, and what is left open. */
public final class StartTest {
    public static void main(String[] args) {
        valueLeftOpen();
        directionLeftOpen();
        inPlaceOfThoseBefore();
        whetherOneIsAnother();
        allLeftOpen();
        firstStates();
        Check.end();
    }

    private static void valueLeftOpen() {
        Check.about("its value; -1 to leave it open");
        Run run = Run.of("addVariable(2, 0)", "give(0, -1, 1)").and("explore()");
        run.due("firstCount()", 3);
        for (int value = 0; value <= 2; value++) {
            Check.same("state " + value, run.state(value), "i(" + value + ",1)");
        }
    }

    private static void directionLeftOpen() {
        Check.about("its direction; 2 to leave it open");
        Run run = Run.of("addVariable(2, 0)", "give(0, 2, 2)").and("explore()");
        run.due("firstCount()", 3);
        for (int i = 0; i < 3; i++) {
            Check.same("state " + i, run.state(i), "i(2," + (i - 1) + ")");
        }
    }

    /** Not beside them: what was given before is gone, for this variable alone. */
    private static void inPlaceOfThoseBefore() {
        Check.about("Gives a value and a direction for the start, in place of those before.");
        Run run = Run.of("addVariable(2, 0)", "addVariable(2, 0)", "give(0, 0, -1)",
                "give(1, 2, 1)", "give(0, -1, 0)").and("explore()");
        run.due("firstCount()", 3);
        Check.same("state 0", run.state(0), "i(0,0)(2,1)");
        Check.same("state 2", run.state(2), "i(2,0)(2,1)");
        run.and("give(0, 1, 2)").and("explore()").due("firstCount()", 3);
        Check.same("state 0", run.state(0), "i(1,-1)(2,1)");
        run.and("give(0, -1, 2)").and("explore()").due("firstCount()", 9);
    }

    private static void whetherOneIsAnother() {
        Check.about("Returns whether one of them is another one than before.");
        Run run = Run.of("addVariable(2, 0)", "addVariable(2, 0)");
        run.due("give(0, -1, 2)", false).due("give(0, 0, 2)", true).due("give(0, 0, 2)", false);
        run.due("give(0, 0, -1)", true).due("give(0, 0, -1)", false).due("give(0, 1, -1)", true);
        run.due("give(0, 0, 0)", true).due("give(0, -1, 0)", true).due("give(0, -1, 0)", false);
        run.due("give(0, -1, 2)", true).due("give(0, -1, 2)", false);
        // Each variable has its own.
        run.due("give(1, 1, 1)", true).due("give(0, 1, 1)", true).due("give(1, 1, 1)", false);
        // A refused call is none of those before.
        run.due("give(0, 3, 1)", Run.ARGUMENT).due("give(0, 1, 3)", Run.ARGUMENT);
        run.due("give(0, 1, 1)", false).due("open()", 2).due("give(1, -1, 2)", false);
    }

    private static void allLeftOpen() {
        Check.about("Leaves the values and directions of all variables open.");
        Run run = Run.of("addVariable(2, 0)", "addVariable(2, 0)", "give(0, 1, 2)",
                "give(1, -1, 1)").and("explore()").due("firstCount()", 3 * 3);
        run.due("open()", 2).and("explore()").due("firstCount()", 81);
        Run last = Run.of("addVariable(2, 0)", "addVariable(2, 0)", "addVariable(2, 0)",
                "addVariable(2, 0)", "give(3, 0, 0)").due("open()", 1);
        last.due("give(3, -1, 2)", false);
        // Constraints stay.
        Run bound = Run.of("addVariable(2, 0)", "addConstraint(CONSTANT, 0, 0, 0)", "open()");
        bound.and("explore()").due("firstCount()", 3).due("dropConstraint()", 0);
    }

    /** Given, but not allowed; and allowed, but not given: both are none of the first states. */
    private static void firstStates() {
        Check.about("The first states are the instants that are allowed and have what is given.");
        Run run = Run.of("addVariable(3, 1)", "addVariable(3, 1)",
                "addConstraint(RATE, 0, 1, 0)", "give(0, 2, 1)", "give(1, -1, 0)");
        run.and("explore()").due("firstCount()", 2);
        Check.same("state 0", run.state(0), "i(2,1)(3,0)");
        Check.same("state 1", run.state(1), "i(2,1)(4,0)");
        run.and("give(1, 2, 0)").due("explore()", 0);
        run.and("give(0, 2, 0)").and("explore()").due("firstCount()", 1);
        Check.same("state 0", run.state(0), "i(2,0)(2,0)");
    }
}
