/** In which order states get their numbers, and successors are told. */
public final class OrderTest {
    public static void main(String[] args) {
        firstStates();
        firstDifference();
        successorsWithoutANumber();
        turnsInTheOrderOfNumbers();
        successorsAreTold();
        shortestCycle();
        Check.end();
    }

    private static void states(Run run, int from, String... dues) {
        for (int i = 0; i < dues.length; i++) {
            Check.same("state " + (from + i), run.state(from + i), dues[i]);
        }
    }

    private static void firstStates() {
        Check.about("States are numbered from 0 in the order in which they are found: the first"
                + " states, in ascending order");
        Run run = Run.of("addVariable(2, 0)").and("explore()");
        states(run, 0, "i(0,-1)", "i(0,0)", "i(0,1)", "i(1,-1)", "i(1,0)", "i(1,1)", "i(2,-1)",
                "i(2,0)", "i(2,1)");
    }

    /** A smaller value goes before a smaller direction, an earlier variable before a later one. */
    private static void firstDifference() {
        Check.about("the first difference decides, a smaller value, or with equal values a smaller"
                + " direction, comes first");
        // Where variable 0 rises variable 1 is low, and where it falls variable 1 is high.
        Run run = Run.of("addVariable(2, 0)", "addVariable(2, 1)", "addVariable(2, 0)",
                "addVariable(2, 0)", "addConstraint(OPPOSITE, 0, 1, 0)", "give(1, -1, 2)",
                "give(2, 2, 1)", "give(3, 0, -1)");
        run.due("explore()", 3 * (1 + 2 * 2));
        states(run, 0, "i(0,-1)(2,1)(2,1)(0,-1)", "i(0,0)(2,0)(2,1)(0,-1)",
                "i(0,1)(2,-1)(2,1)(0,-1)", "i(1,-1)(0,1)(2,1)(0,-1)", "i(1,-1)(1,1)(2,1)(0,-1)",
                "i(1,0)(0,0)(2,1)(0,-1)", "i(1,0)(1,0)(2,1)(0,-1)", "i(1,1)(0,-1)(2,1)(0,-1)",
                "i(1,1)(1,-1)(2,1)(0,-1)", "i(2,-1)(0,1)(2,1)(0,-1)", "i(2,-1)(1,1)(2,1)(0,-1)");
        // The last variable decides where all others are the same.
        Run last = Run.of("addVariable(2, 0)", "addVariable(2, 0)", "addVariable(2, 0)",
                "addVariable(2, 0)", "give(0, 2, 1)", "give(1, 2, 1)", "give(2, 2, 1)");
        last.due("explore()", 9);
        states(last, 0, "i(2,1)(2,1)(2,1)(0,-1)", "i(2,1)(2,1)(2,1)(0,0)", "i(2,1)(2,1)(2,1)(0,1)",
                "i(2,1)(2,1)(2,1)(1,-1)");
    }

    private static void successorsWithoutANumber() {
        Check.about("then, for each state in the order of the numbers, its successors that have no"
                + " number yet, in ascending order");
        Run run = Run.of("addVariable(3, 1)", "give(0, 2, 0)").due("explore()", 18);
        // i(2,0) leads to spans 1 to 3; s(1,-1) to instants 4 to 6, s(2,0) to none, s(3,1) to
        // instants 7 to 9; i(0,-1) to none, i(0,0) to spans 10 and 11, i(1,0) to spans 1, 11 and
        // 12; i(3,0) to 3, 13 and 14; i(4,0) to 13 and 15; s(1,1) to 0, 6 and 16, s(3,-1) to 0, 7
        // and 17.
        states(run, 0, "i(2,0)", "s(1,-1)", "s(2,0)", "s(3,1)", "i(0,-1)", "i(0,0)", "i(1,0)",
                "i(3,0)", "i(4,0)", "i(4,1)", "s(0,0)", "s(1,1)", "s(1,0)", "s(3,-1)", "s(3,0)",
                "s(4,0)", "i(2,1)", "i(2,-1)");
    }

    /** States of a smaller number go first, though their successors come later in the order. */
    private static void turnsInTheOrderOfNumbers() {
        Run run = Run.of("addVariable(2, 0)", "addVariable(2, 0)", "give(0, 1, 2)",
                "give(1, 1, 0)", "addConstraint(CONSTANT, 1, 0, 0)").and("explore()");
        states(run, 0, "i(1,-1)(1,0)", "i(1,0)(1,0)", "i(1,1)(1,0)", "s(1,-1)(1,0)",
                "s(1,0)(1,0)", "s(1,1)(1,0)", "i(0,-1)(1,0)", "i(0,0)(1,0)", "i(2,0)(1,0)");
        for (int i = 0; i < 9; i++) {
            run.due("distance(" + i + ")", i < 3 ? 0 : i < 6 ? 1 : 2);
        }
    }

    /** Not in the order of the states: what was found first is told first. */
    private static void successorsAreTold() {
        Check.about("an index among its successors, which are told in ascending order of their"
                + " numbers, from 0");
        Run run = Run.of("addVariable(3, 1)", "give(0, 2, 0)").and("explore()");
        Check.same("of i(1,0)", run.successors(6), "1 11 12");
        Check.same("of i(1,0)", run.successorsOf("i(1,0)"), "s(1,-1) s(1,1) s(1,0)");
        Check.same("of s(1,1)", run.successors(11).split(" ")[0], "0");
        Check.same("of s(1,1)", run.successorsOf("s(1,1)"), "i(2,0) i(1,0) i(2,1)");
        run.due("successor(11, 0)", 0).due("successor(11, 1)", 6).due("successor(11, 2)", 16);
    }

    /** A state never follows itself by one step, as instants and spans take turns. */
    private static void shortestCycle() {
        Check.about("Returns whether some state can follow itself, by one or more steps.");
        Run two = Run.of("addVariable(2, 0)", "give(0, 1, 0)").and("explore()");
        two.due("successor(0, 2)", 3).due("successor(3, 0)", 0).due("hasCycle()", true);
        // A way that parts and meets again is none.
        Run none = Run.of("addVariable(3, 0)", "addVariable(2, 0)", "addVariable(3, 0)",
                "addConstraint(RATE, 0, 1, 0)", "addConstraint(RATE, 2, 1, 0)",
                "addConstraint(CONSTANT, 1, 0, 0)", "give(0, 0, 1)", "give(2, 0, 1)",
                "give(1, 2, 0)").and("explore()");
        none.due("hasCycle()", false);
        Check.same("ways part", none.count("successorCount", 1) > 1, true);
        // A cycle that no first state is in.
        Run later = Run.of("addVariable(2, 0)", "give(0, 0, 1)").and("explore()");
        later.due("hasCycle()", true);
        Check.same("of s(1,1)", later.successorsOf("s(1,1)"), "i(1,0) i(2,0) i(2,1)");
    }
}
