import java.util.List;
import java.util.Set;
import java.util.TreeSet;

/**
 * The edges of a variable: what it can change to at every landmark, the lowest and the highest
 * among them, and between them; and what constraints allow where a sign or a direction is missing.
 */
public final class EdgesTest {
    public static void main(String[] args) {
        steadyAtLandmark();
        risingAtLandmark();
        fallingAtLandmark();
        betweenLandmarks();
        spanAtLandmark();
        spanBetweenLandmarks();
        spanAlone();
        sameInstant();
        allVariablesChange();
        missingSigns();
        sums();
        sumsInEachOrder();
        sameVariable();
        matchAtTheEnds();
        distances();
        Check.end();
    }

    private static String variable(int landmarks) {
        return "addVariable(" + landmarks + ", 0)";
    }

    /** From an instant of one variable; a first state's successors are in ascending order. */
    private static void spansAfter(int landmarks, int value, int direction, String due) {
        Run run = Run.of(variable(landmarks), "give(0, " + value + ", " + direction + ")");
        run.and("explore()");
        String instant = "i(" + value + "," + direction + ")";
        Check.same("spans after " + instant + " of " + landmarks + " landmarks",
                run.successorsOf(instant), due);
    }

    private static String span(int value, int direction) {
        return "s(" + value + "," + direction + ")";
    }

    private static void steadyAtLandmark() {
        Check.about("steady, it stays so, or, if there is a landmark k + 1, comes to the value"
                + " 2 * k + 1 rising, or, if k is greater than 0, to the value 2 * k - 1 falling");
        spansAfter(2, 0, 0, "s(0,0) s(1,1)");
        spansAfter(2, 2, 0, "s(1,-1) s(2,0)");
        spansAfter(3, 0, 0, "s(0,0) s(1,1)");
        spansAfter(3, 2, 0, "s(1,-1) s(2,0) s(3,1)");
        spansAfter(3, 4, 0, "s(3,-1) s(4,0)");
        spansAfter(4, 0, 0, "s(0,0) s(1,1)");
        spansAfter(4, 2, 0, "s(1,-1) s(2,0) s(3,1)");
        spansAfter(4, 4, 0, "s(3,-1) s(4,0) s(5,1)");
        spansAfter(4, 6, 0, "s(5,-1) s(6,0)");
    }

    private static void risingAtLandmark() {
        Check.about("rising, it comes to the value 2 * k + 1 rising (nothing is possible if there"
                + " is no landmark k + 1)");
        for (int n = 2; n <= 4; n++) {
            for (int k = 0; k < n - 1; k++) {
                spansAfter(n, 2 * k, 1, span(2 * k + 1, 1));
            }
            spansAfter(n, 2 * n - 2, 1, "");
        }
    }

    private static void fallingAtLandmark() {
        Check.about("falling, to the value 2 * k - 1 falling (nothing is possible if k is 0)");
        for (int n = 2; n <= 4; n++) {
            spansAfter(n, 0, -1, "");
            for (int k = 1; k < n; k++) {
                spansAfter(n, 2 * k, -1, span(2 * k - 1, -1));
            }
        }
    }

    private static void betweenLandmarks() {
        Check.about("Between landmarks: rising and falling, it stays so; steady, it keeps its"
                + " value and can have any direction.");
        for (int n = 2; n <= 4; n++) {
            for (int value = 1; value < 2 * n - 2; value += 2) {
                spansAfter(n, value, 1, span(value, 1));
                spansAfter(n, value, -1, span(value, -1));
                spansAfter(n, value, 0,
                        span(value, -1) + " " + span(value, 0) + " " + span(value, 1));
            }
        }
    }

    /**
     * From a span in which variable 0 is as told and variable 1 rises at the value 1: each thing
     * that variable 0 can do goes with each of the four of variable 1, but for the same instant.
     */
    private static void instantsAfter(int landmarks, int value, int direction, String... dues) {
        Run run = Run.of(variable(landmarks), variable(2),
                "give(0, " + value + ", " + direction + ")", "give(1, 1, 1)");
        run.and("explore()").due("isComplete()", true);
        String here = "(" + value + "," + direction + ")";
        Set<String> due = new TreeSet<>();
        for (String one : dues) {
            for (String other : List.of("(1,0)", "(1,1)", "(2,0)", "(2,1)")) {
                due.add("i" + one + other);
            }
        }
        due.remove("i" + here + "(1,1)");
        after(run, "s" + here + "(1,1)", due.toArray(new String[0]));
    }

    /** In whichever order they were found. */
    private static void after(Run run, String state, String... dues) {
        Set<String> got = new TreeSet<>(List.of(run.successorsOf(state).split(" ")));
        Check.same("after " + state, got.toString(), new TreeSet<>(List.of(dues)).toString());
    }

    private static void spanAtLandmark() {
        Check.about("From a span to an instant: at a landmark, steady, it stays so;"
                + " rising or falling, nothing is possible.");
        for (int n = 2; n <= 4; n++) {
            for (int k = 0; k < n; k++) {
                instantsAfter(n, 2 * k, 0, "(" + 2 * k + ",0)");
            }
            // No instant leads to a span that rises or falls at a landmark.
            Run run = Run.of(variable(n));
            int states = run.count("explore");
            for (int i = run.count("firstCount"); i < states; i++) {
                boolean atLandmark = run.count("value", i, 0) % 2 == 0;
                boolean steady = run.count("direction", i, 0) == 0;
                Check.same(run.state(i), atLandmark && !steady, false);
            }
        }
    }

    private static void spanBetweenLandmarks() {
        Check.about("Between landmarks: rising, it can come to the landmark above, rising or"
                + " steady, or keep its value, rising or steady; falling, it can come to the"
                + " landmark below, falling or steady, or keep its value, falling or steady;"
                + " steady, it stays so.");
        instantsAfter(2, 1, 1, "(2,1)", "(2,0)", "(1,1)", "(1,0)");
        instantsAfter(2, 1, -1, "(0,-1)", "(0,0)", "(1,-1)", "(1,0)");
        instantsAfter(2, 1, 0, "(1,0)");
        instantsAfter(3, 1, 1, "(2,1)", "(2,0)", "(1,1)", "(1,0)");
        instantsAfter(3, 1, -1, "(0,-1)", "(0,0)", "(1,-1)", "(1,0)");
        instantsAfter(3, 3, 1, "(4,1)", "(4,0)", "(3,1)", "(3,0)");
        instantsAfter(3, 3, -1, "(2,-1)", "(2,0)", "(3,-1)", "(3,0)");
        instantsAfter(3, 3, 0, "(3,0)");
        instantsAfter(4, 1, -1, "(0,-1)", "(0,0)", "(1,-1)", "(1,0)");
        instantsAfter(4, 3, 1, "(4,1)", "(4,0)", "(3,1)", "(3,0)");
        instantsAfter(4, 5, 1, "(6,1)", "(6,0)", "(5,1)", "(5,0)");
        instantsAfter(4, 5, -1, "(4,-1)", "(4,0)", "(5,-1)", "(5,0)");
        instantsAfter(4, 5, 0, "(5,0)");
    }

    /** Of one variable: the same instant is none, so a steady span has no successor at all. */
    private static void spanAlone() {
        Check.about("(An instant that has the same values and directions as the span before it"
                + " is none of its successors.)");
        Run run = Run.of(variable(3), "give(0, 1, 0)").and("explore()");
        for (String steady : List.of("s(0,0)", "s(1,0)", "s(2,0)", "s(3,0)", "s(4,0)")) {
            Check.same("after " + steady, run.successorsOf(steady), "");
        }
        after(run, "s(1,1)", "i(1,0)", "i(2,0)", "i(2,1)");
        after(run, "s(1,-1)", "i(0,-1)", "i(0,0)", "i(1,0)");
        after(run, "s(3,1)", "i(3,0)", "i(4,0)", "i(4,1)");
        after(run, "s(3,-1)", "i(2,-1)", "i(2,0)", "i(3,0)");
    }

    private static void sameInstant() {
        // The instant is there, as the state before the span, and is none of its successors.
        Run back = Run.of(variable(2), "give(0, 1, 1)").and("explore()");
        Check.same("state 0", back.state(0), "i(1,1)");
        Check.same("state 1", back.state(1), "s(1,1)");
        Check.same("successors of 0", back.successors(0), "1");
        Check.same("successors of 1", back.successors(1), "2 3 4");
        // All that could be left is the same instant: no successor, and no cycle.
        Run alone = Run.of(variable(2), variable(2), "addConstraint(CONSTANT, 0, 0, 0)",
                "addConstraint(CONSTANT, 1, 0, 0)", "give(0, 1, 0)", "give(1, 2, 0)");
        alone.due("explore()", 2).due("successorCount(1)", 0).due("hasCycle()", false);
        // One variable differs: it is a successor, in whichever place the variable stands.
        for (int moving = 0; moving < 3; moving++) {
            Run run = Run.of(variable(2), variable(2), variable(2), "give(0, 1, 0)",
                    "give(1, 1, 0)", "give(2, 1, 0)", "give(" + moving + ", 1, 1)",
                    "addConstraint(CONSTANT, " + (moving + 1) % 3 + ", 0, 0)",
                    "addConstraint(CONSTANT, " + (moving + 2) % 3 + ", 0, 0)").and("explore()");
            run.due("successorCount(0)", 1).due("successorCount(1)", 3).due("successor(1, 0)", 2);
            run.due("direction(2, " + moving + ")", 0).due("value(2, " + moving + ")", 1);
        }
    }

    /** One variable for which nothing is possible is enough. */
    private static void allVariablesChange() {
        Check.about("A successor of a state is an allowed state of the other sort to which all"
                + " variables can change.");
        for (int stuck = 0; stuck < 4; stuck++) {
            Run run = Run.of(variable(3), variable(3), variable(3), variable(3), "give(0, 2, 0)",
                    "give(1, 2, 0)", "give(2, 2, 0)", "give(3, 2, 0)");
            run.and("give(" + stuck + ", 4, 1)").due("explore()", 1).due("endCount()", 1);
            run.and("give(" + stuck + ", 0, -1)").due("explore()", 1).due("endCount()", 1);
        }
        // Possible for the variables, but not allowed: a steady level with a rising rate.
        Run.of(variable(2), variable(2), "addConstraint(RATE, 0, 1, 0)",
                "addConstraint(CONSTANT, 0, 0, 0)", "give(0, 0, 0)", "give(1, 0, 1)")
                .due("explore()", 1).due("successorCount(0)", 0);
    }

    private static int firsts(String... plan) {
        return Run.of(plan).and("explore()").count("firstCount");
    }

    /** With its zero at an end, a variable has no value below it, or none above it. */
    private static void missingSigns() {
        Check.about("0 EQUAL x y: both have the same direction and the same sign.");
        Check.same("EQUAL, ends", firsts("addVariable(2, 0)", "addVariable(2, 1)",
                "addConstraint(EQUAL, 0, 1, 0)"), 3);
        Check.about("the direction of y is that of x times -1, and the sign of y is that of x"
                + " times -1");
        Check.same("OPPOSITE, ends", firsts("addVariable(2, 0)", "addVariable(3, 0)",
                "addConstraint(OPPOSITE, 0, 1, 0)"), 3);
        Check.same("OPPOSITE, other ends", firsts("addVariable(2, 0)", "addVariable(3, 2)",
                "addConstraint(OPPOSITE, 0, 1, 0)"), 3 * (1 + 2 * 4));
        Check.about("2 RATE x y: the direction of x is the sign of y.");
        Run never = Run.of("addVariable(2, 1)", "addVariable(2, 0)",
                "addConstraint(RATE, 0, 1, 0)").and("explore()");
        never.due("firstCount()", 3 * 9).due("direction(0, 0)", 0);
        Check.same("RATE, falling by a rate that is never below zero", firsts("addVariable(2, 1)",
                "addVariable(2, 0)", "addConstraint(RATE, 0, 1, 0)", "give(0, -1, -1)"), 0);
        Check.same("RATE, rising by a rate that is never above zero", firsts("addVariable(2, 1)",
                "addVariable(4, 3)", "addConstraint(RATE, 0, 1, 0)", "give(0, -1, 1)"), 0);
        Check.about("the sign of z is possible for the sum of a number with the sign of x and one"
                + " with the sign of y");
        // Two that are never above zero, with a sum that is never below: all are at zero.
        Check.same("SUM, ends", firsts("addVariable(2, 1)", "addVariable(2, 1)",
                "addVariable(2, 0)", "addConstraint(SUM, 0, 1, 2)", "give(0, -1, 0)",
                "give(1, -1, 0)"), 1);
    }

    /** Each pair of directions, and of signs at the values 0, 2 and 4, with the zero at 2. */
    private static void sums() {
        Check.about("(for 1 and 1, and 1 and 0, 1 alone is possible; for -1 and -1, and -1 and 0,"
                + " -1 alone; for 0 and 0, 0 alone; for 1 and -1, all are possible; and the same"
                + " in the other order)");
        int[][] pairs = {{1, 1}, {1, 0}, {0, 1}, {-1, -1}, {-1, 0}, {0, -1}, {0, 0}, {1, -1},
            {-1, 1}};
        String[] possible = {"1", "1", "1", "-1", "-1", "-1", "0", "-1 0 1", "-1 0 1"};
        for (int p = 0; p < pairs.length; p++) {
            String one = "addVariable(3, 1)";
            int x = pairs[p][0];
            int y = pairs[p][1];
            Run directions = Run.of(one, one, one, "addConstraint(SUM, 0, 1, 2)",
                    "give(0, 2, " + x + ")", "give(1, 2, " + y + ")", "give(2, 2, 2)");
            Run signs = Run.of(one, one, one, "addConstraint(SUM, 0, 1, 2)",
                    "give(0, " + (2 + 2 * x) + ", 0)", "give(1, " + (2 + 2 * y) + ", 0)",
                    "give(2, -1, 0)");
            Set<String> sums = new TreeSet<>(List.of(possible[p].split(" ")));
            Check.same("directions for " + x + " and " + y, sumsOf(directions, true).toString(),
                    sums.toString());
            Check.same("signs for " + x + " and " + y, sumsOf(signs, false).toString(),
                    sums.toString());
        }
    }

    /**
     * Whichever variables are x, y and z, all open. By the pairs above in their order, with 2
     * values below and above the zero: 8 + 4 + 4, twice, 1, and 2 * 2 * 5 twice; of the directions
     * each pair has 1 sum, but for the last two, which have 3.
     */
    private static void sumsInEachOrder() {
        String one = "addVariable(3, 1)";
        for (int order = 0; order < 6; order++) {
            int x = order / 2;
            int y = (x + 1 + order % 2) % 3;
            String sum = "addConstraint(SUM, " + x + ", " + y + ", " + (3 - x - y) + ")";
            Check.same("values of " + sum, firsts(one, one, one, sum, "give(0, -1, 0)",
                    "give(1, -1, 0)", "give(2, -1, 0)"), 2 * (8 + 4 + 4) + 1 + 2 * 20);
            Check.same("directions of " + sum, firsts(one, one, one, sum, "give(0, 2, 2)",
                    "give(1, 2, 2)", "give(2, 2, 2)"), 7 + 2 * 3);
        }
    }

    /** The directions, or the signs, that variable 2 has in the first states. */
    private static Set<String> sumsOf(Run run, boolean ofDirections) {
        Set<String> sums = new TreeSet<>();
        run.and("explore()");
        int firsts = run.count("firstCount");
        for (int i = 0; i < firsts; i++) {
            sums.add(ofDirections ? run.ask("direction", i, 2)
                    : run.ask("sign", 2, run.count("value", i, 2)));
        }
        return sums;
    }

    private static void sameVariable() {
        Check.about("A constraint allows some values and directions of its variables (which can be"
                + " the same)");
        String one = "addVariable(3, 1)";
        Check.same("EQUAL 0 0", firsts(one, "addConstraint(EQUAL, 0, 0, 0)"), 15);
        Check.same("OPPOSITE 0 0", firsts(one, "addConstraint(OPPOSITE, 0, 0, 0)"), 1);
        Check.same("RATE 0 0", firsts(one, "addConstraint(RATE, 0, 0, 0)"), 5);
        Check.same("SUM 0 0 0", firsts(one, "addConstraint(SUM, 0, 0, 0)"), 15);
        Check.same("MATCH 0 0", firsts(one, "addConstraint(MATCH, 0, 0, 0)"), 15);
        // x + y = x: x is not at zero, or y is; and in the same way for the directions.
        int values = 4 * 5 + 1;
        int directions = 2 * 3 + 1;
        Check.same("SUM 0 1 0", firsts(one, one, "addConstraint(SUM, 0, 1, 0)"),
                values * directions);
        Check.same("SUM 1 0 0", firsts(one, one, "addConstraint(SUM, 1, 0, 0)"),
                values * directions);
        // x + x = z: both have the same sign and the same direction.
        Check.same("SUM 0 0 1", firsts(one, one, "addConstraint(SUM, 0, 0, 1)"),
                (2 * 2 + 1 + 2 * 2) * 3);
    }

    /** The lowest and the highest landmark are landmarks as the others are. */
    private static void matchAtTheEnds() {
        Check.about("5 MATCH x y: x and y are at landmarks, or neither is (the directions have no"
                + " meaning).");
        for (int value = 0; value <= 6; value++) {
            int due = value % 2 == 0 ? 2 * 9 : 1 * 9;
            Check.same("MATCH at " + value, firsts("addVariable(4, 1)", "addVariable(2, 0)",
                    "addConstraint(MATCH, 0, 1, 0)", "give(0, " + value + ", 2)"), due);
        }
        Check.about("4 CONSTANT x: the direction of x is 0.");
        Check.same("CONSTANT", firsts("addVariable(4, 1)", "addConstraint(CONSTANT, 0, 0, 0)"), 7);
    }

    /** A first state that other first states lead to keeps its distance. */
    private static void distances() {
        Check.about("The distance of a state is the least number of steps from a first state.");
        Run run = Run.of(variable(2)).and("explore()");
        for (int i = 0; i < 14; i++) {
            run.due("distance(" + i + ")", i < 9 ? 0 : 1);
        }
        // i(0,1) and i(1,1) are first, and s(1,1) follows both.
        Run two = Run.of(variable(4), "give(0, -1, 1)").and("explore()");
        Check.same("distance of s(1,1)", two.count("distance", two.numberOf("s(1,1)")), 1);
        Check.same("distance of i(6,1)", two.count("distance", two.numberOf("i(6,1)")), 0);
        Check.same("distance of i(6,0)", two.count("distance", two.numberOf("i(6,0)")), 2);
        Check.same("distance of s(5,-1)", two.count("distance", two.numberOf("s(5,-1)")), 3);
        Check.same("distance of i(0,0)", two.count("distance", two.numberOf("i(0,0)")), 4);
    }
}
