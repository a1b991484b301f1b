import java.util.Random;

/** Runs of calls by chance, from written seeds, each answer against that of the Reference. */
public final class RandomRunsTest {
    private static final int RUNS = 600;
    private static final int MOST_CALLS = 120;

    private final Random random;
    private final QualitativeSimulator mine = new QualitativeSimulator();
    private final Reference reference = new Reference();
    private final StringBuilder told = new StringBuilder();
    private final int mostVariables;
    private boolean agrees = true;

    private interface Call {
        Object answer();
    }

    private RandomRunsTest(long seed) {
        random = new Random(seed);
        mostVariables = 1 + random.nextInt(4);
    }

    public static void main(String[] args) {
        for (int seed = 1; seed <= RUNS; seed++) {
            new RandomRunsTest(seed).run(seed);
        }
        Check.end();
    }

    private void run(long seed) {
        for (int i = random.nextInt(mostVariables + 1); i > 0; i--) {
            addVariable();
        }
        int calls = 20 + random.nextInt(MOST_CALLS - 20);
        for (int call = 0; call < calls && agrees; call++) {
            oneCall();
        }
        if (!agrees) {
            System.out.println("seed " + seed + ": " + told);
        }
    }

    private void oneCall() {
        int choice = random.nextInt(100);
        if (choice < 5) {
            addVariable();
        } else if (choice < 20) {
            addConstraint();
        } else if (choice < 27) {
            both("dropConstraint()", mine::dropConstraint, reference::dropConstraint);
        } else if (choice < 42) {
            give();
        } else if (choice < 44) {
            both("open()", mine::open, reference::open);
        } else if (choice < 62) {
            both("explore()", mine::explore, reference::explore);
            compareExplorations();
        } else if (choice < 70) {
            askOfModel();
        } else if (choice < 85) {
            askOfState(near(reference.isExplored() ? reference.explore() : 3));
        } else {
            askOfExploration();
        }
    }

    /** A number from 0 to below the limit, now and then one that is too small or too great. */
    private int near(int limit) {
        int chance = random.nextInt(40);
        if (chance == 0) {
            return -1 - random.nextInt(3);
        }
        if (chance == 1) {
            return limit + random.nextInt(3);
        }
        if (chance == 2) {
            return random.nextInt();
        }
        return limit <= 0 ? 0 : random.nextInt(limit);
    }

    private void addVariable() {
        if (reference.variableCount() >= mostVariables && random.nextInt(8) != 0) {
            return;
        }
        int landmarks = near(3) + 2;
        int zero = near(landmarks);
        both("addVariable(" + landmarks + ", " + zero + ")",
                () -> mine.addVariable(landmarks, zero),
                () -> reference.addVariable(landmarks, zero));
    }

    private void addConstraint() {
        int kind = near(6);
        int x = near(reference.variableCount());
        int y = near(reference.variableCount());
        int z = near(reference.variableCount());
        both("addConstraint(" + kind + ", " + x + ", " + y + ", " + z + ")",
                () -> mine.addConstraint(kind, x, y, z),
                () -> reference.addConstraint(kind, x, y, z));
    }

    private void give() {
        int variable = near(reference.variableCount());
        int value = near(8) - 1;
        int direction = near(4) - 1;
        both("give(" + variable + ", " + value + ", " + direction + ")",
                () -> mine.give(variable, value, direction),
                () -> reference.give(variable, value, direction));
    }

    private void askOfModel() {
        int variable = near(reference.variableCount());
        int value = near(7);
        both("sign(" + variable + ", " + value + ")",
                () -> mine.sign(variable, value), () -> reference.sign(variable, value));
        both("variableCount()", mine::variableCount, reference::variableCount);
        both("isExplored()", mine::isExplored, reference::isExplored);
        both("digest()", mine::digest, reference::digest);
    }

    private void askOfState(int state) {
        int variable = near(reference.variableCount());
        int index = near(5);
        both("value(" + state + ", " + variable + ")",
                () -> mine.value(state, variable), () -> reference.value(state, variable));
        both("direction(" + state + ", " + variable + ")",
                () -> mine.direction(state, variable), () -> reference.direction(state, variable));
        both("isInstant(" + state + ")",
                () -> mine.isInstant(state), () -> reference.isInstant(state));
        both("successorCount(" + state + ")",
                () -> mine.successorCount(state), () -> reference.successorCount(state));
        both("successor(" + state + ", " + index + ")",
                () -> mine.successor(state, index), () -> reference.successor(state, index));
        both("distance(" + state + ")",
                () -> mine.distance(state), () -> reference.distance(state));
        both("isAtRest(" + state + ")",
                () -> mine.isAtRest(state), () -> reference.isAtRest(state));
    }

    private void askOfExploration() {
        int variable = near(reference.variableCount());
        int value = near(7);
        int steps = near(101);
        both("soonest(" + variable + ", " + value + ")",
                () -> mine.soonest(variable, value), () -> reference.soonest(variable, value));
        both("ways(" + steps + ")", () -> mine.ways(steps), () -> reference.ways(steps));
        both("isComplete()", mine::isComplete, reference::isComplete);
        both("firstCount()", mine::firstCount, reference::firstCount);
        both("endCount()", mine::endCount, reference::endCount);
        both("hasCycle()", mine::hasCycle, reference::hasCycle);
        both("rest()", mine::rest, reference::rest);
    }

    private void compareExplorations() {
        askOfExploration();
        both("digest()", mine::digest, reference::digest);
        for (int s = 0; s < reference.explore() && agrees; s++) {
            int state = s;
            both("distance(" + s + ")",
                    () -> mine.distance(state), () -> reference.distance(state));
            both("isInstant(" + s + ")",
                    () -> mine.isInstant(state), () -> reference.isInstant(state));
            for (int i = 0; i < reference.successorCount(s) && agrees; i++) {
                int index = i;
                both("successor(" + s + ", " + i + ")", () -> mine.successor(state, index),
                        () -> reference.successor(state, index));
            }
        }
    }

    private void both(String name, Call mineCall, Call referenceCall) {
        String got = tell(mineCall);
        String due = tell(referenceCall);
        if (told.length() < 20000) {
            told.append(name).append(" = ").append(due).append("; ");
        }
        if (!got.equals(due)) {
            agrees = false;
            Check.same(name, got, due);
        }
    }

    private static String tell(Call call) {
        try {
            return String.valueOf(call.answer());
        } catch (RuntimeException e) {
            return "throws." + e.getClass().getName();
        }
    }
}
