/**
 * Too small and too large: of each number that a method takes, the last one on each side that is
 * taken. The first ones that are refused, and the least and the greatest int, are in RefusalsTest.
 */
public final class LimitsTest {
    public static void main(String[] args) {
        landmarksAndZero();
        signsAtTheEnds();
        kind();
        variablesOfConstraints();
        numbersWithoutMeaning();
        givenVariable();
        givenValue();
        givenDirection();
        statesAndVariables();
        successorIndices();
        soonest();
        steps();
        Check.end();
    }

    private static String variable(int landmarks, int zero) {
        return "addVariable(" + landmarks + ", " + zero + ")";
    }

    private static void landmarksAndZero() {
        Check.about("landmarks is not 2 to 4, or zero is not 0 to landmarks - 1");
        for (int n = 2; n <= 4; n++) {
            for (int zero = 0; zero < n; zero++) {
                Run run = Run.of().due(variable(n, zero), 0);
                // Spans are steady at the n landmarks, and of any direction between them.
                int instants = 3 * (2 * n - 1);
                run.due("explore()", instants + n + 3 * (n - 1)).due("firstCount()", instants);
            }
        }
    }

    private static void signsAtTheEnds() {
        Check.about("so values go from 0 to 2 * n - 2");
        for (int n = 2; n <= 4; n++) {
            String top = "sign(0, " + (2 * n - 2) + ")";
            Run.of(variable(n, 0)).due("sign(0, 0)", 0).due("sign(0, 1)", 1).due(top, 1);
            Run.of(variable(n, n - 1)).due("sign(0, 0)", -1).due(top, 0)
                    .due("sign(0, " + (2 * n - 3) + ")", -1);
        }
        Check.about("it is below, at or above the zero of the variable");
        Run.of(variable(3, 1)).due("sign(0, 0)", -1).due("sign(0, 1)", -1).due("sign(0, 2)", 0)
                .due("sign(0, 3)", 1).due("sign(0, 4)", 1);
        Run.of(variable(2, 0), variable(2, 1), variable(3, 1), variable(4, 3))
                .due("sign(0, 2)", 1).due("sign(3, 6)", 0).due("sign(3, 5)", -1);
    }

    private static void kind() {
        Check.about("kind is not 0 to 5");
        Run.of(variable(3, 1), variable(3, 1)).due("addConstraint(0, 0, 1, 0)", 0)
                .and("explore()").due("firstCount()", 3 * (2 * 2 + 1 + 2 * 2));
        Run.of(variable(3, 1), variable(3, 1)).due("addConstraint(5, 0, 1, 0)", 0)
                .and("explore()").due("firstCount()", 9 * (3 * 3 + 2 * 2));
    }

    private static void variablesOfConstraints() {
        Check.about("there is no variable with a number that has a meaning");
        Run sums = Run.of();
        for (int last = 0; last < 4; last++) {
            sums.and("addVariable(2, 0)");
            sums.due("addConstraint(SUM, 0, 0, " + last + ")", 2 * last);
            sums.due("addConstraint(SUM, " + last + ", " + last + ", 0)", 2 * last + 1);
        }
        Run.of(variable(2, 0), variable(2, 0)).due("addConstraint(CONSTANT, 1, 0, 0)", 0)
                .due("addConstraint(EQUAL, 1, 1, 0)", 1).due("addConstraint(OPPOSITE, 0, 1, 0)", 2)
                .due("addConstraint(RATE, 1, 0, 0)", 3).due("addConstraint(MATCH, 1, 1, 0)", 4)
                .due("addConstraint(SUM, 1, 1, 1)", 5);
    }

    /** They are taken as they come, and change no answer. */
    private static void numbersWithoutMeaning() {
        String[] numbers = {"LEAST", "-1", "1", "2", "3", "4", "GREATEST"};
        Check.about("the variable y (no meaning for a CONSTANT)");
        for (String y : numbers) {
            sameAs("addConstraint(CONSTANT, 0, 0, 0)", "addConstraint(CONSTANT, 0, " + y + ", 0)");
        }
        Check.about("the variable z (no meaning but for a SUM)");
        for (String z : numbers) {
            sameAs("addConstraint(CONSTANT, 1, 0, 0)", "addConstraint(CONSTANT, 1, 0, " + z + ")");
            sameAs("addConstraint(CONSTANT, 1, 0, 0)",
                    "addConstraint(CONSTANT, 1, " + z + ", " + z + ")");
            for (String kind : new String[] {"EQUAL", "OPPOSITE", "RATE", "MATCH"}) {
                sameAs("addConstraint(" + kind + ", 0, 1, 0)",
                        "addConstraint(" + kind + ", 0, 1, " + z + ")");
            }
        }
    }

    /** With the given variable z added later, too: it stays without a meaning. */
    private static void sameAs(String plain, String odd) {
        Run due = Run.of(variable(3, 1), variable(2, 0), plain, variable(2, 1), "give(2, 1, 0)");
        Run got = Run.of(variable(3, 1), variable(2, 0), odd, variable(2, 1), "give(2, 1, 0)");
        due.and("explore()");
        got.and("explore()");
        Check.same("everything after " + odd, got.everything(), due.everything());
    }

    private static void givenVariable() {
        Check.about("if there is no such variable");
        Run run = Run.of();
        for (int last = 0; last < 4; last++) {
            run.and("addVariable(2, 0)").due("give(" + last + ", 2, 1)", true);
        }
        run.due("give(0, 2, 1)", false).due("open()", 4);
    }

    private static void givenValue() {
        Check.about("value is neither -1 nor one of the variable");
        for (int n = 2; n <= 4; n++) {
            int top = 2 * n - 2;
            Run run = Run.of(variable(n, 0));
            run.due("give(0, 0, 2)", true).and("explore()").due("firstCount()", 3);
            run.due("value(0, 0)", 0).due("value(2, 0)", 0).due("direction(0, 0)", -1);
            run.due("give(0, " + top + ", 2)", true).and("explore()").due("firstCount()", 3);
            run.due("value(0, 0)", top).due("value(2, 0)", top).due("direction(2, 0)", 1);
            run.due("give(0, -1, 2)", true).and("explore()").due("firstCount()", 3 * (top + 1));
        }
    }

    private static void givenDirection() {
        Check.about("direction is not -1 to 2");
        Run run = Run.of(variable(2, 0));
        for (int direction = -1; direction <= 1; direction++) {
            run.due("give(0, -1, " + direction + ")", true).and("explore()");
            run.due("firstCount()", 3).due("direction(0, 0)", direction);
            run.due("direction(2, 0)", direction).due("value(2, 0)", 2);
        }
        run.due("give(0, -1, 2)", true).and("explore()").due("firstCount()", 9);
    }

    /** One way up: i(0,1), s(1,1) and so on; the values go with the numbers of the states. */
    private static Run rising() {
        return Run.of(variable(2, 0), variable(2, 0), variable(4, 0), variable(3, 2),
                "addConstraint(CONSTANT, 0, 0, 0)", "addConstraint(CONSTANT, 1, 0, 0)",
                "addConstraint(CONSTANT, 3, 0, 0)", "addConstraint(RATE, 2, 1, 0)",
                "give(0, 2, 0)", "give(1, 2, 0)", "give(2, 0, 1)", "give(3, 4, 0)");
    }

    private static void statesAndVariables() {
        Check.about("if there is no such state or variable");
        Run run = rising().due("explore()", 7);
        run.due("value(0, 0)", 2).due("value(0, 3)", 4).due("value(6, 0)", 2);
        run.due("value(6, 2)", 6).due("value(6, 3)", 4).due("value(0, 2)", 0);
        run.due("direction(0, 0)", 0).due("direction(0, 3)", 0).due("direction(6, 0)", 0);
        run.due("direction(6, 2)", 1).due("direction(6, 3)", 0);
        Check.about("if there is no such state");
        run.due("isInstant(0)", true).due("isInstant(5)", false).due("isInstant(6)", true);
        run.due("successorCount(0)", 1).due("successorCount(6)", 0);
        run.due("distance(0)", 0).due("distance(6)", 6);
        run.due("isAtRest(0)", false).due("isAtRest(6)", false);
    }

    /** From i(1,0) of one variable three spans follow. */
    private static void successorIndices() {
        Check.about("if there is no such state or index");
        Run run = Run.of(variable(2, 0), "give(0, 1, 0)").and("explore()");
        run.due("successorCount(0)", 3).due("successor(0, 0)", 1).due("successor(0, 2)", 3);
        rising().and("explore()").due("successor(0, 0)", 1).due("successor(5, 0)", 6);
    }

    private static void soonest() {
        Check.about("if the variable has no such value");
        Run run = rising().and("explore()");
        run.due("soonest(0, 0)", -1).due("soonest(0, 2)", 0).due("soonest(3, 0)", -1);
        run.due("soonest(3, 4)", 0).due("soonest(2, 0)", 0).due("soonest(2, 6)", 6);
    }

    /** More of ways(99) and ways(100) is in WrapAroundTest. */
    private static void steps() {
        Check.about("steps is not 0 to 100");
        rising().and("explore()").due("ways(0)", 1).due("ways(1)", 1).due("ways(6)", 1)
                .due("ways(7)", 0).due("ways(99)", 0).due("ways(100)", 0);
    }
}
