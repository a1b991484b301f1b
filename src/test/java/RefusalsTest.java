import java.util.LinkedHashSet;
import java.util.List;
import java.util.Set;

/**
 * Each exception of each method: the first numbers that are refused on each side, the least and
 * the greatest int, and that nothing is changed after it, by a twin that was spared the call. Then,
 * where several exceptions apply, that the one is thrown that is named first.
 */
public final class RefusalsTest {
    private static final String[] NO_VARIABLES = {};

    private static final String[] ONE_VARIABLE = {"addVariable(3, 1)", "give(0, 2, 2)"};

    private static final String[] TWO_VARIABLES = {"addVariable(2, 0)", "addVariable(3, 1)",
        "addConstraint(RATE, 0, 1, 0)", "addConstraint(MATCH, 1, 0, 0)", "give(0, -1, 1)"};

    private static final String[] FOUR_VARIABLES = {"addVariable(2, 0)", "addVariable(3, 1)",
        "addVariable(4, 3)", "addVariable(2, 1)", "addConstraint(EQUAL, 0, 1, 0)",
        "addConstraint(OPPOSITE, 2, 1, 0)", "addConstraint(CONSTANT, 3, 0, 0)", "give(0, 0, 1)",
        "give(3, 1, 2)"};

    private static final String[] EIGHT_CONSTRAINTS = {"addVariable(3, 1)", "addVariable(3, 1)",
        "addConstraint(RATE, 0, 1, 0)", "addConstraint(SUM, 0, 0, 0)",
        "addConstraint(SUM, 1, 1, 1)", "addConstraint(EQUAL, 1, 1, 0)",
        "addConstraint(MATCH, 0, 0, 0)", "addConstraint(MATCH, 0, 1, 0)",
        "addConstraint(EQUAL, 0, 0, 0)", "addConstraint(MATCH, 1, 0, 0)", "give(1, 3, 2)"};

    private static final String[] NO_STATES = {"addVariable(3, 1)",
        "addConstraint(CONSTANT, 0, 0, 0)", "give(0, -1, 1)"};

    /** 21 times 21 first states, of which 250 get a number. */
    private static final String[] TOO_MANY_STATES = {"addVariable(4, 0)", "addVariable(4, 3)"};

    private static final List<String[]> PLANS = List.of(NO_VARIABLES, ONE_VARIABLE, TWO_VARIABLES,
            FOUR_VARIABLES, EIGHT_CONSTRAINTS, NO_STATES, TOO_MANY_STATES);

    private static final String[] FAR_OFF = {"-1", "LEAST", "GREATEST"};

    private static final Set<String> TRIED = new LinkedHashSet<>();
    private static String due = "";

    public static void main(String[] args) {
        variables();
        constraints();
        given();
        signs();
        withoutExploration();
        statesAndVariables();
        successorIndices();
        soonest();
        ways();
        everyRefusalOfTheDocumentWasTried();
        manyInARow();
        theOneThatIsNamedFirst();
        Check.end();
    }

    /** The next calls are to be refused so, in the words of the document. */
    private static void refusal(String words) {
        TRIED.add(words);
        due = "throws." + words.split(" ")[1];
        Check.about(words.substring(words.indexOf(" if ") + 4));
    }

    private static void everyRefusalOfTheDocumentWasTried() {
        List<String> all = Document.refusals();
        Check.same("refusals of the document", all.size(), 34);
        for (String words : all) {
            Check.same("promise " + words + " was tried", TRIED.contains(words), true);
        }
        for (String words : TRIED) {
            Check.same("the document refuses: promise " + words, all.contains(words), true);
        }
    }

    // What is refused leaves all as it was.

    private static void refuses(String[] plan, String... calls) {
        for (String call : calls) {
            Run run = Run.of(plan);
            run.due(call, due);
            sameFromHereOn("after " + call, run, Run.of(plan));
        }
    }

    private static void refusesExplored(String[] plan, String... calls) {
        for (String call : calls) {
            Run run = Run.of(plan).and("explore()");
            run.due(call, due);
            run.due("isExplored()", true);
            sameFromHereOn("explored, after " + call, run, Run.of(plan).and("explore()"));
        }
    }

    private static void refusesInBoth(String[] plan, String... calls) {
        refuses(plan, calls);
        refusesExplored(plan, calls);
    }

    /** Once more and further on, as the variables of constraints show in explorations alone. */
    private static void sameFromHereOn(String what, Run run, Run twin) {
        same(what, run, twin);
        both(what, run, twin, "explore()");
        for (int left = 8; left >= 0; left--) {
            if (both(what, run, twin, "dropConstraint()").equals(Run.STATE)) {
                break;
            }
            both(what, run, twin, "explore()");
        }
        both(what, run, twin, "open()");
        both(what, run, twin, "addVariable(2, 1)");
        both(what, run, twin, "addConstraint(CONSTANT, 0, 0, 0)");
        both(what, run, twin, "explore()");
    }

    private static String both(String what, Run run, Run twin, String call) {
        String answer = twin.answer(call);
        Check.same(what + " " + call, run.answer(call), answer);
        same(what + " " + call, run, twin);
        return answer;
    }

    private static void same(String what, Run run, Run twin) {
        Check.same(what + " all", run.everything(), twin.everything());
    }

    // Promises 2 to 8: in the model.

    private static void variables() {
        refusal("2 IllegalArgumentException if landmarks is not 2 to 4,"
                + " or zero is not 0 to landmarks - 1");
        for (String[] plan : List.of(NO_VARIABLES, TWO_VARIABLES)) {
            refusesInBoth(plan, "addVariable(1, 0)", "addVariable(5, 0)", "addVariable(0, 0)",
                    "addVariable(-1, 0)", "addVariable(LEAST, 0)", "addVariable(GREATEST, 0)",
                    "addVariable(5, 4)", "addVariable(1, 1)", "addVariable(0, -1)",
                    "addVariable(LEAST, GREATEST)", "addVariable(GREATEST, GREATEST)",
                    "addVariable(LEAST, LEAST)");
            for (int n = 2; n <= 4; n++) {
                refusesInBoth(plan, "addVariable(" + n + ", -1)",
                        "addVariable(" + n + ", " + n + ")", "addVariable(" + n + ", LEAST)",
                        "addVariable(" + n + ", GREATEST)");
            }
        }
        refusal("2 IllegalStateException if there are 4 variables");
        refusesInBoth(FOUR_VARIABLES, "addVariable(2, 0)", "addVariable(4, 3)");
    }

    private static void constraints() {
        refusal("3 IllegalArgumentException if kind is not 0 to 5");
        refusesInBoth(TWO_VARIABLES, "addConstraint(-1, 0, 1, 0)", "addConstraint(6, 0, 1, 0)",
                "addConstraint(LEAST, 0, 1, 0)", "addConstraint(GREATEST, 0, 1, 0)");
        refusal("3 IndexOutOfBoundsException if there is no variable with a number"
                + " that has a meaning");
        for (String kind : List.of("EQUAL", "OPPOSITE", "RATE", "SUM", "CONSTANT", "MATCH")) {
            String add = "addConstraint(" + kind + ", ";
            refusesInBoth(NO_VARIABLES, add + "0, 0, 0)");
            refusesInBoth(FOUR_VARIABLES, add + "4, 0, 0)");
            for (String no : List.of("-1", "2", "3", "4", "LEAST", "GREATEST")) {
                refusesInBoth(TWO_VARIABLES, add + no + ", 1, 0)");
                if (!kind.equals("CONSTANT")) {
                    refusesInBoth(TWO_VARIABLES, add + "0, " + no + ", 0)");
                }
                if (kind.equals("SUM")) {
                    refusesInBoth(TWO_VARIABLES, add + "0, 1, " + no + ")");
                }
            }
        }
        refusal("3 IllegalStateException if there are 8 constraints");
        refusesInBoth(EIGHT_CONSTRAINTS, "addConstraint(EQUAL, 0, 1, 0)",
                "addConstraint(CONSTANT, 1, 0, 0)", "addConstraint(SUM, 1, 0, 1)",
                "addConstraint(CONSTANT, 1, -1, 9)", "addConstraint(RATE, 1, 0, LEAST)");
        refusal("4 IllegalStateException if there is none");
        refusesInBoth(NO_VARIABLES, "dropConstraint()");
        refusesInBoth(ONE_VARIABLE, "dropConstraint()");
        Run emptied = Run.of(TWO_VARIABLES).due("dropConstraint()", 1).due("dropConstraint()", 0);
        emptied.due("dropConstraint()", due);
    }

    private static void given() {
        refusal("5 IndexOutOfBoundsException if there is no such variable");
        refusesInBoth(NO_VARIABLES, "give(0, -1, 2)", "give(0, 0, 0)");
        refusesInBoth(FOUR_VARIABLES, "give(4, 0, 0)");
        for (String no : List.of("-1", "2", "4", "LEAST", "GREATEST")) {
            refusesInBoth(TWO_VARIABLES, "give(" + no + ", 0, 0)", "give(" + no + ", -1, 2)");
        }
        refusal("5 IllegalArgumentException if value is neither -1 nor one of the variable,"
                + " or direction is not -1 to 2");
        for (int n = 2; n <= 4; n++) {
            String[] plan = {"addVariable(3, 1)", "addVariable(" + n + ", 1)", "give(1, 1, 0)"};
            refusesInBoth(plan, "give(1, -2, 0)", "give(1, " + (2 * n - 1) + ", 0)",
                    "give(1, LEAST, 2)", "give(1, GREATEST, 2)", "give(1, 2, -2)",
                    "give(1, 2, 3)", "give(1, -1, LEAST)", "give(1, 2, GREATEST)",
                    "give(1, -2, -2)", "give(1, GREATEST, GREATEST)");
        }
    }

    private static void signs() {
        refusal("8 IndexOutOfBoundsException if there is no such variable");
        refusesInBoth(NO_VARIABLES, "sign(0, 0)");
        refusesInBoth(FOUR_VARIABLES, "sign(4, 0)");
        for (String no : List.of("-1", "2", "3", "4", "LEAST", "GREATEST")) {
            refusesInBoth(TWO_VARIABLES, "sign(" + no + ", 0)");
        }
        refusal("8 IllegalArgumentException if the variable has no such value");
        for (int n = 2; n <= 4; n++) {
            String[] plan = {"addVariable(3, 1)", "addVariable(" + n + ", 0)"};
            refusesInBoth(plan, "sign(1, -1)", "sign(1, " + (2 * n - 1) + ")",
                    "sign(1, " + 2 * n + ")", "sign(1, LEAST)", "sign(1, GREATEST)");
        }
    }

    // Promises 11 to 24: of the exploration.

    private static void withoutExploration() {
        needsExploration(11, "isComplete()");
        needsExploration(12, "firstCount()");
        needsExploration(13, "value(0, 0)");
        needsExploration(14, "direction(0, 0)");
        needsExploration(15, "isInstant(0)");
        needsExploration(16, "successorCount(0)");
        needsExploration(17, "successor(0, 0)");
        needsExploration(18, "distance(0)");
        needsExploration(19, "isAtRest(0)");
        needsExploration(20, "endCount()");
        needsExploration(21, "soonest(0, 0)");
        needsExploration(22, "hasCycle()");
        needsExploration(23, "ways(0)");
        needsExploration(24, "rest()");
    }

    /** Before there was one, and when it has ended, whatever it had ended by. */
    private static void needsExploration(int promise, String call) {
        refusal(promise + " IllegalStateException if there is no exploration");
        for (String[] plan : PLANS) {
            refuses(plan, call);
        }
        for (String end : List.of("addVariable(2, 0)", "addConstraint(EQUAL, 0, 0, 0)",
                "dropConstraint()", "give(0, -1, 1)", "open()")) {
            String[] ended = {"addVariable(2, 0)", "addConstraint(EQUAL, 0, 0, 0)",
                "give(0, -1, 1)", "explore()", end};
            refuses(ended, call);
        }
    }

    private static void statesAndVariables() {
        refusal("13 IndexOutOfBoundsException if there is no such state or variable");
        noSuchState("value(#, 0)");
        noSuchVariable("value(0, #)");
        refusesExplored(TWO_VARIABLES, "value(-1, -1)", "value(GREATEST, GREATEST)");
        refusal("14 IndexOutOfBoundsException if there is no such state or variable");
        noSuchState("direction(#, 0)");
        noSuchVariable("direction(0, #)");
        refusesExplored(TWO_VARIABLES, "direction(-1, -1)", "direction(GREATEST, GREATEST)");
        refusal("15 IndexOutOfBoundsException if there is no such state");
        noSuchState("isInstant(#)");
        refusal("16 IndexOutOfBoundsException if there is no such state");
        noSuchState("successorCount(#)");
        refusal("17 IndexOutOfBoundsException if there is no such state or index");
        noSuchState("successor(#, 0)");
        refusal("18 IndexOutOfBoundsException if there is no such state");
        noSuchState("distance(#)");
        refusal("19 IndexOutOfBoundsException if there is no such state");
        noSuchState("isAtRest(#)");
    }

    /** For #, the number after the last state's, and others further off. */
    private static void noSuchState(String call) {
        for (String[] plan : PLANS) {
            int states = Run.of(plan).count("explore");
            refusesExplored(plan, call.replace("#", String.valueOf(states)),
                    call.replace("#", "250"));
            for (String no : FAR_OFF) {
                refusesExplored(plan, call.replace("#", no));
            }
        }
        // A state of the exploration before, which had more of them.
        String[] fewer = {"addVariable(3, 1)", "explore()", "give(0, 2, 0)",
            "addConstraint(CONSTANT, 0, 0, 0)"};
        refusesExplored(fewer, call.replace("#", "2"), call.replace("#", "23"));
    }

    private static void noSuchVariable(String call) {
        for (String[] plan : List.of(NO_VARIABLES, ONE_VARIABLE, TWO_VARIABLES, FOUR_VARIABLES)) {
            int variables = Run.of(plan).count("variableCount");
            refusesExplored(plan, call.replace("#", String.valueOf(variables)),
                    call.replace("#", "4"));
            for (String no : FAR_OFF) {
                refusesExplored(plan, call.replace("#", no));
            }
        }
    }

    /** At every state, those without successors among them. */
    private static void successorIndices() {
        refusal("17 IndexOutOfBoundsException if there is no such state or index");
        for (String[] plan : List.of(NO_VARIABLES, ONE_VARIABLE, TWO_VARIABLES)) {
            Run run = Run.of(plan);
            int states = run.count("explore");
            for (int i = 0; i < states; i++) {
                String successor = "successor(" + i + ", ";
                refusesExplored(plan, successor + run.count("successorCount", i) + ")");
                for (String no : FAR_OFF) {
                    run.due(successor + no + ")", due);
                }
            }
        }
        for (String no : FAR_OFF) {
            refusesExplored(TWO_VARIABLES, "successor(0, " + no + ")",
                    "successor(" + no + ", " + no + ")");
        }
        refusesExplored(TOO_MANY_STATES, "successor(0, 0)", "successor(249, 0)");
    }

    private static void soonest() {
        refusal("21 IndexOutOfBoundsException if there is no such variable");
        noSuchVariable("soonest(#, 0)");
        refusal("21 IllegalArgumentException if the variable has no such value");
        for (int n = 2; n <= 4; n++) {
            String[] plan = {"addVariable(3, 1)", "addVariable(" + n + ", 0)"};
            refusesExplored(plan, "soonest(1, -1)", "soonest(1, " + (2 * n - 1) + ")",
                    "soonest(1, " + 2 * n + ")", "soonest(1, LEAST)", "soonest(1, GREATEST)");
        }
        refusesExplored(NO_STATES, "soonest(0, -1)", "soonest(0, 5)");
    }

    private static void ways() {
        refusal("23 IllegalArgumentException if steps is not 0 to 100");
        for (String[] plan : PLANS) {
            refusesExplored(plan, "ways(-1)", "ways(101)", "ways(LEAST)", "ways(GREATEST)");
        }
    }

    /** One object under refused calls of every kind, then once more with an exploration. */
    private static void manyInARow() {
        Check.about("A method that throws an exception changes nothing.");
        String[] plan = {"addVariable(2, 0)", "addVariable(3, 1)", "addVariable(2, 1)",
            "addVariable(2, 0)", "addConstraint(RATE, 0, 1, 0)", "addConstraint(SUM, 0, 2, 3)",
            "addConstraint(MATCH, 0, 3, 0)", "addConstraint(EQUAL, 2, 2, 0)",
            "addConstraint(CONSTANT, 2, 0, 0)", "addConstraint(EQUAL, 1, 1, 0)",
            "addConstraint(MATCH, 3, 0, 0)", "addConstraint(RATE, 0, 1, 0)", "give(0, -1, 1)",
            "give(3, 1, 2)"};
        String[] refused = {"addVariable(1, 0)", "addVariable(2, 2)", "addVariable(2, 0)",
            "addConstraint(6, 0, 0, 0)", "addConstraint(SUM, 0, 1, 4)",
            "addConstraint(CONSTANT, 1, 0, 0)", "give(4, 0, 0)", "give(0, 3, 0)", "give(0, 0, 3)",
            "give(1, 5, -1)", "sign(4, 0)", "sign(0, 3)"};
        String[] ofExploration = {"value(250, 0)", "value(0, 4)", "direction(-1, 0)",
            "direction(0, -1)", "isInstant(250)", "successorCount(-1)", "successor(0, 99)",
            "successor(-1, 0)", "distance(250)", "isAtRest(-1)", "soonest(4, 0)", "soonest(0, 3)",
            "ways(-1)", "ways(101)"};
        Run run = Run.of(plan);
        throwAll(run, refused);
        throwAll(run, ofExploration);
        throwAll(run, "isComplete()", "firstCount()", "endCount()", "hasCycle()", "rest()");
        same("after all refusals", run, Run.of(plan));
        run.and("explore()");
        throwAll(run, refused);
        throwAll(run, ofExploration);
        sameFromHereOn("explored, after all refusals", run, Run.of(plan).and("explore()"));
    }

    private static void throwAll(Run run, String... calls) {
        for (String call : calls) {
            Check.same(call + " throws", run.answer(call).startsWith("throws."), true);
        }
    }

    // Several at once. Each call below breaks every rule that the line names.

    private static void theOneThatIsNamedFirst() {
        Check.about("If several exceptions apply, the one that is named first is thrown.");
        due = Run.ARGUMENT;
        // addVariable: landmarks or zero, and four variables.
        refusesInBoth(FOUR_VARIABLES, "addVariable(1, 0)", "addVariable(5, 0)",
                "addVariable(3, -1)", "addVariable(3, 3)", "addVariable(LEAST, GREATEST)");
        // addConstraint: kind and variable; kind and eight constraints; all three.
        refusesInBoth(TWO_VARIABLES, "addConstraint(-1, 2, 0, 0)", "addConstraint(6, 0, 2, 0)",
                "addConstraint(6, 0, 0, 2)", "addConstraint(LEAST, -1, -1, -1)");
        refusesInBoth(EIGHT_CONSTRAINTS, "addConstraint(-1, 0, 1, 0)",
                "addConstraint(6, 0, 1, 0)", "addConstraint(GREATEST, 2, 2, 2)");
        due = Run.INDEX;
        // addConstraint: a variable and eight constraints.
        refusesInBoth(EIGHT_CONSTRAINTS, "addConstraint(CONSTANT, 2, 0, 0)",
                "addConstraint(EQUAL, -1, 0, 0)", "addConstraint(MATCH, 0, 2, 0)",
                "addConstraint(SUM, 0, 0, 2)", "addConstraint(SUM, 0, LEAST, 0)");
        // give: variable and value, variable and direction, all three.
        refusesInBoth(TWO_VARIABLES, "give(2, -2, 0)", "give(2, 9, 0)", "give(-1, 0, -2)",
                "give(-1, 0, 3)", "give(LEAST, LEAST, LEAST)", "give(4, GREATEST, GREATEST)");
        // sign: variable and value.
        refusesInBoth(TWO_VARIABLES, "sign(2, -1)", "sign(-1, 9)", "sign(GREATEST, LEAST)");
        // soonest: variable and value.
        refusesExplored(TWO_VARIABLES, "soonest(2, -1)", "soonest(-1, 9)",
                "soonest(GREATEST, LEAST)");
        due = Run.STATE;
        // All others: no exploration, and a number that there is not.
        for (String[] plan : List.of(NO_VARIABLES, TWO_VARIABLES)) {
            refuses(plan, "value(-1, 0)", "value(0, -1)", "value(250, 4)", "direction(-1, 0)",
                    "direction(0, -1)", "direction(250, 4)", "isInstant(-1)", "isInstant(250)",
                    "successorCount(-1)", "successorCount(250)", "successor(-1, 0)",
                    "successor(0, -1)", "successor(250, 250)", "distance(-1)", "distance(250)",
                    "isAtRest(-1)", "isAtRest(250)", "soonest(-1, 0)", "soonest(2, 0)",
                    "soonest(0, -1)", "soonest(0, 9)", "soonest(4, 9)", "ways(-1)", "ways(101)");
        }
    }
}
