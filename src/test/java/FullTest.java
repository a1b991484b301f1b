import java.util.ArrayList;
import java.util.List;

/** Where nothing more has room: variables, constraints, states, calls. */
public final class FullTest {
    /** The whole of each model below, if it has no more than these states. */
    private static final int WHOLE = 1000;

    /**
     * 250 first states, which have no successors, as variable 0 falls at its lowest landmark:
     * variable 1 has 5 by its RATE; variables 2 and 3 have 2 + 2 * 4 pairs of values that can add
     * up to one below zero, and 5 pairs of directions that can add up to falling.
     */
    private static final String[] FIRST_250 = {"addVariable(2, 1)", "addVariable(3, 2)",
        "addVariable(3, 1)", "addVariable(3, 0)", "addConstraint(SUM, 2, 3, 0)",
        "addConstraint(RATE, 1, 1, 0)", "give(0, 0, -1)"};

    /**
     * 250 first states, too: 5 steady values of variables 0 and 1, 5 rising ones of variable 2, and
     * 2 above the zero of variable 3, its rate. But these have successors.
     */
    private static final String[] FIRST_250_AND_MORE = {"addVariable(3, 1)", "addVariable(3, 1)",
        "addVariable(3, 1)", "addVariable(2, 0)", "addConstraint(RATE, 2, 3, 0)", "give(0, -1, 0)",
        "give(1, -1, 0)", "give(2, -1, 1)", "give(3, -1, 0)"};

    /**
     * 251 first states. Variable 2 is below zero and falls (2 values), with 4 + 4 * 4 pairs of
     * values and 5 of directions; or it is at zero and steady, with 1 + 4 * 4 pairs of values and 3
     * of directions.
     */
    private static final String[] FIRST_251 = {"addVariable(3, 2)", "addVariable(3, 0)",
        "addVariable(2, 1)", "addConstraint(SUM, 1, 0, 2)", "addConstraint(RATE, 2, 2, 0)"};

    /** 250 in all, with 75 first states: (4 * 4 + 3 * 3) pairs of values, and 3 directions. */
    private static final String[] ALL_250 = {"addVariable(4, 0)", "addVariable(4, 3)",
        "addConstraint(MATCH, 0, 1, 0)", "give(0, -1, 0)"};

    /** 250 in all, the last ones 14 steps away. */
    private static final String[] ALL_250_FAR = {"addVariable(4, 0)", "addVariable(4, 0)",
        "addVariable(3, 1)", "addConstraint(RATE, 1, 2, 0)", "addConstraint(EQUAL, 1, 0, 0)",
        "addConstraint(MATCH, 1, 2, 0)", "give(0, -1, -1)", "give(1, 2, 2)"};

    /** 251 in all, with 189 first states; no state is more than one step away. */
    private static final String[] ALL_251_NEAR = {"addVariable(4, 2)", "addVariable(2, 1)",
        "addVariable(4, 1)", "addConstraint(OPPOSITE, 2, 0, 0)", "addConstraint(RATE, 1, 1, 0)"};

    /** 251 in all, with 3 first states; the last ones are 10 steps away. */
    private static final String[] ALL_251_FAR = {"addVariable(2, 1)", "addVariable(4, 2)",
        "addVariable(4, 2)", "addConstraint(SUM, 1, 2, 2)", "addConstraint(RATE, 1, 0, 0)",
        "addConstraint(RATE, 1, 1, 0)", "give(0, 2, 0)", "give(2, 0, 2)"};

    /** 251 in all, with 75 first states. */
    private static final String[] ALL_251 = {"addVariable(2, 0)", "addVariable(3, 0)",
        "addVariable(2, 1)", "addConstraint(OPPOSITE, 2, 0, 0)", "give(2, -1, 1)"};

    /** Far more, from one first state. */
    private static final String[] FROM_ONE = {"addVariable(2, 0)", "addVariable(3, 1)",
        "addVariable(3, 1)", "give(0, 1, 0)", "give(1, 2, 0)", "give(2, 3, 0)"};

    /** Four variables that leave their landmarks together: some 1,700 links. */
    private static final String[] MANY_LINKS = {"addVariable(3, 2)", "addVariable(2, 1)",
        "addVariable(3, 2)", "addVariable(2, 1)", "addConstraint(MATCH, 2, 3, 0)",
        "addConstraint(MATCH, 1, 2, 0)", "addConstraint(MATCH, 1, 0, 0)", "give(0, 1, 0)"};

    /** 21 times 21 first states, and 21 to the fourth. */
    private static final String[] FIRST_441 = {"addVariable(4, 0)", "addVariable(4, 3)"};

    private static final String[] ALL_OPEN = {"addVariable(4, 0)", "addVariable(4, 1)",
        "addVariable(4, 2)", "addVariable(4, 3)"};

    public static void main(String[] args) {
        fourVariables();
        greatestState();
        eightConstraints();
        just250();
        oneMore();
        firstsThatHaveANumber();
        cutOffAreBeginnings();
        turnsThatHadNotCome();
        questionsOfWhatWasCutOff();
        afterACutOff();
        allCalls();
        Check.end();
    }

    private static void fourVariables() {
        Check.about("There are at most 4 variables, numbered from 0.");
        Run run = Run.of();
        for (int v = 0; v < 4; v++) {
            run.due("variableCount()", v).due("addVariable(4, " + v + ")", v);
        }
        run.due("variableCount()", 4).due("addVariable(2, 0)", Run.STATE);
        run.due("variableCount()", 4).due("sign(3, 6)", 0).due("sign(3, 5)", -1);
        // The fourth takes part in what is given, in constraints and in states.
        run.due("addConstraint(EQUAL, 3, 0, 0)", 0).due("addConstraint(RATE, 2, 3, 0)", 1);
        run.and("give(0, 0, -1)", "give(1, 6, 1)", "give(2, 0, 0)", "give(3, -1, 2)");
        run.due("explore()", 1).due("value(0, 3)", 6).due("direction(0, 3)", -1);
        run.due("give(3, 5, 2)", true).due("explore()", 0);
    }

    private static void greatestState() {
        Run run = Run.of(ALL_OPEN).and("give(0, 6, 1)", "give(1, 6, 1)", "give(2, 6, 1)",
                "give(3, 6, 1)").due("explore()", 1);
        Check.same("state 0", run.state(0), "i(6,1)(6,1)(6,1)(6,1)");
        run.and("give(0, 6, 0)", "give(1, 6, 0)", "give(2, 6, 0)", "give(3, 6, 0)",
                "addConstraint(MATCH, 0, 1, 0)", "addConstraint(MATCH, 1, 2, 0)",
                "addConstraint(MATCH, 2, 3, 0)").and("explore()");
        // All stay, or all leave: with one that stays at a landmark, all do.
        Check.same("after state 0", run.successorsOf("i(6,0)(6,0)(6,0)(6,0)"),
                "s(5,-1)(5,-1)(5,-1)(5,-1) s(6,0)(6,0)(6,0)(6,0)");
    }

    private static void eightConstraints() {
        Check.about("There are at most 8, numbered from 0.");
        Run run = Run.of("addVariable(3, 1)", "addVariable(2, 0)");
        for (int c = 0; c < 7; c++) {
            run.due("addConstraint(EQUAL, 0, 0, 0)", c);
        }
        run.due("explore()", 15 * 9 + 9 * 5).due("firstCount()", 15 * 9);
        // The eighth counts as the others do, and there is room for another one after it.
        run.due("addConstraint(CONSTANT, 1, 0, 0)", 7).and("explore()");
        run.due("firstCount()", 15 * 3).due("addConstraint(EQUAL, 0, 0, 0)", Run.STATE);
        run.due("isExplored()", true).due("dropConstraint()", 7).and("explore()");
        run.due("firstCount()", 15 * 9).due("addConstraint(CONSTANT, 0, 0, 0)", 7).and("explore()");
        run.due("firstCount()", 5 * 9).due("addConstraint(EQUAL, 0, 0, 0)", Run.STATE);
        Check.about("Returns how many are left.");
        for (int left = 7; left >= 0; left--) {
            run.due("dropConstraint()", left);
        }
        run.due("dropConstraint()", Run.STATE).due("addConstraint(SUM, 0, 1, 0)", 0);
    }

    private static void just250() {
        Check.about("If there would be more than 250 states, the exploration ends before the one"
                + " that would be too much gets a number");
        Run firsts = Run.of(FIRST_250).due("explore()", 250).due("isComplete()", true);
        firsts.due("firstCount()", 250).due("endCount()", 250).due("ways(0)", 250);
        firsts.due("ways(1)", 0).due("isInstant(249)", true).due("distance(249)", 0);
        Run later = Run.of(ALL_250).due("explore()", 250).due("isComplete()", true);
        later.due("firstCount()", 75).due("isInstant(249)", true).due("distance(249)", 2);
        Run far = Run.of(ALL_250_FAR).due("explore()", 250).due("isComplete()", true);
        far.due("distance(249)", 14);
        for (String[] plan : List.of(FIRST_250, ALL_250, ALL_250_FAR)) {
            Check.same("states of the whole", Run.ofReference(WHOLE, plan).answer("explore()"),
                    "250");
        }
    }

    private static void oneMore() {
        Check.about("it is incomplete then");
        for (String[] plan : List.of(FIRST_250_AND_MORE, FIRST_251, ALL_251_NEAR, ALL_251_FAR,
                ALL_251, FROM_ONE, FIRST_441, ALL_OPEN)) {
            Run run = Run.of(plan).due("explore()", 250).due("isComplete()", false);
            run.due("isInstant(250)", Run.INDEX).due("explore()", 250);
        }
        for (String[] plan : List.of(ALL_251_NEAR, ALL_251_FAR, ALL_251)) {
            Check.same("states of the whole", Run.ofReference(WHOLE, plan).answer("explore()"),
                    "251");
        }
    }

    private static void firstsThatHaveANumber() {
        Check.about("Returns the number of first states (those that have a number).");
        Run.of(FIRST_250).and("explore()").due("firstCount()", 250);
        Run.of(FIRST_250_AND_MORE).and("explore()").due("firstCount()", 250);
        Run.of(FIRST_251).and("explore()").due("firstCount()", 250);
        Run.of(FIRST_441).and("explore()").due("firstCount()", 250);
        Run.of(ALL_OPEN).and("explore()").due("firstCount()", 250);
        Run.of(ALL_251_NEAR).and("explore()").due("firstCount()", 189);
        Run.of(ALL_251_FAR).and("explore()").due("firstCount()", 3);
        Run.of(FROM_ONE).and("explore()").due("firstCount()", 1);
        Check.same("first states of the whole",
                Run.ofReference(WHOLE, FIRST_251).and("explore()").answer("firstCount()"), "251");
        // In ascending order, so the 250th of all open ones is that with 249 in base 21.
        Run open = Run.of(ALL_OPEN).and("explore()");
        int last = 249 % 21;
        int before = 249 / 21;
        Check.same("state 249", open.state(249), "i(0,-1)(0,-1)(" + before / 3 + ","
                + (before % 3 - 1) + ")(" + last / 3 + "," + (last % 3 - 1) + ")");
    }

    /** The states and distances of the whole, and those of its links that stay within. */
    private static void cutOffAreBeginnings() {
        Check.about("of all states, also of those whose turn had not come, just the successors with"
                + " a number count");
        for (String[] plan : List.of(FIRST_251, ALL_251_NEAR, ALL_251_FAR, ALL_251, FROM_ONE,
                FIRST_441)) {
            Run run = Run.of(plan).and("explore()");
            Run whole = Run.ofReference(WHOLE, plan).and("explore()");
            for (int i = 0; i < 250; i++) {
                Check.same("state " + i, run.state(i), whole.state(i));
                Check.same("distance of " + i, run.answer("distance(" + i + ")"),
                        whole.answer("distance(" + i + ")"));
                Check.same("successors of " + i, run.successors(i), within(whole, i));
            }
        }
    }

    private static String within(Run whole, int state) {
        List<String> numbered = new ArrayList<>();
        int successors = whole.count("successorCount", state);
        for (int k = 0; k < successors; k++) {
            int next = whole.count("successor", state, k);
            if (next < 250) {
                numbered.add(String.valueOf(next));
            }
        }
        return String.join(" ", numbered);
    }

    /** The exploration ended in the turn of the first state that has one without a number. */
    private static void turnsThatHadNotCome() {
        for (String[] plan : List.of(ALL_251_NEAR, FROM_ONE)) {
            Run run = Run.of(plan).and("explore()");
            Run whole = Run.ofReference(WHOLE, plan).and("explore()");
            int last = 0;
            while (whole.successors(last).equals(run.successors(last))) {
                last++;
            }
            int linked = 0;
            for (int i = last + 1; i < 250; i++) {
                linked += run.count("successorCount", i);
            }
            Check.same("successors of states after " + last, linked > 0, true);
        }
    }

    /** Every answer of what was cut off is that of the numbered states and their links alone. */
    private static void questionsOfWhatWasCutOff() {
        for (String[] plan : List.of(FIRST_250, FIRST_250_AND_MORE, FIRST_251, ALL_250,
                ALL_250_FAR, ALL_251_NEAR, ALL_251_FAR, ALL_251, FROM_ONE, MANY_LINKS,
                FIRST_441)) {
            Run run = Run.of(plan).and("explore()");
            Run reference = Run.ofReference(250, plan).and("explore()");
            Check.same("everything", run.everything(), reference.everything());
        }
        // No span has a number, so nothing follows; and no state has a value above 3 there.
        Run run = Run.of(FIRST_441).and("explore()");
        run.due("endCount()", 250).due("hasCycle()", false).due("ways(0)", 250).due("ways(1)", 0);
        run.due("soonest(0, 3)", 0).due("soonest(0, 4)", -1).due("soonest(1, 6)", 0);
        run.due("rest()", 28.0 / 250.0).due("successorCount(0)", 0).due("successorCount(249)", 0);
    }

    /** The next exploration has all its room again. */
    private static void afterACutOff() {
        Run run = Run.of(FIRST_441).and("explore()").due("isComplete()", false);
        run.and("addConstraint(MATCH, 0, 1, 0)", "give(0, -1, 0)").due("explore()", 250);
        run.due("isComplete()", true).due("firstCount()", 75);
        run.due("dropConstraint()", 0).due("explore()", 250).due("isComplete()", false);
        run.and("give(0, 6, 1)").due("explore()", 21).due("isComplete()", true);
        run.due("open()", 1).due("explore()", 250).due("isComplete()", false);
    }

    /** The object answers to its 512th call. */
    private static void allCalls() {
        Check.about("An object is used for at most 512 calls after it has been made");
        Run run = Run.of("addVariable(4, 0)", "addVariable(4, 3)", "addVariable(2, 0)",
                "addVariable(3, 1)");
        int calls = 4;
        while (calls < 508) {
            run.due("give(0, " + calls / 4 % 7 + ", 0)", true).due("explore()", 250);
            run.due("isComplete()", false).due("firstCount()", 250);
            calls += 4;
        }
        run.due("give(0, 6, 1)", true).due("give(1, 0, -1)", true).due("give(2, 2, 2)", true);
        run.due("explore()", 3 * 15);
    }
}
