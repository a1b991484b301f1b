import java.math.BigInteger;
import java.util.Arrays;

/** Each promise of the document by answers worked out by hand: promise 1 in promise1, and so on. */
public final class PromisesTest {
    private static final Class<IllegalArgumentException> ARGUMENT = IllegalArgumentException.class;
    private static final Class<IndexOutOfBoundsException> INDEX = IndexOutOfBoundsException.class;
    private static final Class<IllegalStateException> STATE = IllegalStateException.class;
    private static final int[] WRONG_NUMBERS = {-1, Integer.MIN_VALUE, Integer.MAX_VALUE};

    private static final int EQUAL = 0;
    private static final int OPPOSITE = 1;
    private static final int RATE = 2;
    private static final int SUM = 3;
    private static final int CONSTANT = 4;
    private static final int MATCH = 5;

    public static void main(String[] args) {
        promise1();
        promise2();
        promise3();
        promise4();
        promise5();
        promise6();
        promise7();
        promise8();
        promise9();
        promise10();
        promise11();
        promise12();
        promise13();
        promise14();
        promise15();
        promise16();
        promise17();
        promise18();
        promise19();
        promise20();
        promise21();
        promise22();
        promise23();
        promise24();
        promise25();
        Check.end();
    }

    // Models that several promises are tried on.

    /** With one variable of each pair (landmarks, zero). */
    private static QualitativeSimulator with(int... landmarksAndZeros) {
        QualitativeSimulator s = new QualitativeSimulator();
        for (int i = 0; i < landmarksAndZeros.length; i += 2) {
            s.addVariable(landmarksAndZeros[i], landmarksAndZeros[i + 1]);
        }
        return s;
    }

    private static QualitativeSimulator explored(QualitativeSimulator s) {
        s.explore();
        return s;
    }

    /**
     * One variable from its lowest landmark, rising. Its states, i an instant and s a span:
     * 0 i(0,1), 1 s(1,1), 2 i(1,0), 3 i(2,0), 4 i(2,1), 5 s(1,-1), 6 s(1,0), 7 s(2,0), 8 i(0,-1),
     * 9 i(0,0), 10 s(0,0). Its links: 0 to 1; 1 to 2, 3, 4; 2 to 1, 5, 6; 3 to 5, 7; 5 to 2, 8, 9;
     * 9 to 1, 10.
     */
    private static QualitativeSimulator ramp() {
        QualitativeSimulator s = with(2, 0);
        s.give(0, 0, 1);
        return s;
    }

    /** A variable that must not move and shall rise: there is no state. */
    private static QualitativeSimulator contradiction() {
        QualitativeSimulator s = with(3, 1);
        s.addConstraint(CONSTANT, 0, 0, 0);
        s.give(0, -1, 1);
        return s;
    }

    /** One variable that stays at a landmark: instant, span, and no further. */
    private static QualitativeSimulator still() {
        QualitativeSimulator s = with(3, 1);
        s.addConstraint(CONSTANT, 0, 0, 0);
        s.give(0, 2, 0);
        return s;
    }

    /** More first states than get a number: 441. */
    private static QualitativeSimulator tooManyFirsts() {
        return with(4, 0, 4, 3);
    }

    /** The document asks for 250 states here, and no further one (the Reference agrees). */
    private static QualitativeSimulator justEnough() {
        QualitativeSimulator s = with(2, 0, 3, 2, 3, 0);
        s.addConstraint(RATE, 0, 1, 0);
        s.addConstraint(CONSTANT, 2, 1, 0);
        s.give(0, -1, -1);
        s.give(2, -1, 0);
        return s;
    }

    /** One state too many: 251. */
    private static QualitativeSimulator oneTooMany() {
        QualitativeSimulator s = with(3, 0, 2, 1, 3, 1);
        s.addConstraint(SUM, 1, 2, 1);
        s.addConstraint(OPPOSITE, 1, 2, 0);
        s.give(2, -1, -1);
        return s;
    }

    // What must not change.

    private static String tell(QualitativeSimulator s) {
        StringBuilder told = new StringBuilder();
        told.append(s.variableCount()).append(' ').append(s.isExplored()).append(' ');
        told.append(s.digest());
        if (s.isExplored()) {
            told.append(' ').append(s.isComplete()).append(' ').append(s.firstCount());
            told.append(' ').append(s.ways(3)).append(' ').append(s.ways(100));
        }
        return told.toString();
    }

    /** The call throws, and then everything is as it was, the exploration too. */
    private static void failsAndChangesNothing(String what, Class<? extends RuntimeException> due,
            QualitativeSimulator s, Runnable call) {
        String before = tell(s);
        Check.fails(what, due, call);
        Check.same(what + ", then all", tell(s), before);
    }

    private static void needsExploration(String what, QualitativeSimulator s, Runnable call) {
        failsAndChangesNothing(what + " without an exploration", STATE, s, call);
        s.explore();
        s.give(0, -1, 2);
        failsAndChangesNothing(what + " after a change", STATE, s, call);
    }

    private static String state(QualitativeSimulator s, int state) {
        StringBuilder told = new StringBuilder(s.isInstant(state) ? "i" : "s");
        for (int v = 0; v < s.variableCount(); v++) {
            told.append('(').append(s.value(state, v)).append(',');
            told.append(s.direction(state, v)).append(')');
        }
        return told.toString();
    }

    private static String successors(QualitativeSimulator s, int state) {
        StringBuilder told = new StringBuilder();
        for (int i = 0; i < s.successorCount(state); i++) {
            told.append(i == 0 ? "" : " ").append(s.successor(state, i));
        }
        return told.toString();
    }

    private static long digestOf(long... numbers) {
        long d = 131;
        for (long x : numbers) {
            d = d * 31 + x;
        }
        return d;
    }

    private static void promise1() {
        QualitativeSimulator s = new QualitativeSimulator();
        Check.same("1 variableCount()", s.variableCount(), 0);
        Check.same("1 isExplored()", s.isExplored(), false);
        Check.same("1 digest()", s.digest(), digestOf(0, 0));
        Check.fails("1 dropConstraint()", STATE, () -> s.dropConstraint());
        Check.same("1 open()", s.open(), 0);
    }

    private static void promise2() {
        QualitativeSimulator s = new QualitativeSimulator();
        for (int landmarks : new int[] {Integer.MIN_VALUE, -1, 0, 1, 5, Integer.MAX_VALUE}) {
            failsAndChangesNothing("2 addVariable(" + landmarks + ", 0)", ARGUMENT, s,
                    () -> s.addVariable(landmarks, 0));
        }
        for (int landmarks = 2; landmarks <= 4; landmarks++) {
            int n = landmarks;
            for (int zero : new int[] {Integer.MIN_VALUE, -1, n, n + 1, Integer.MAX_VALUE}) {
                failsAndChangesNothing("2 addVariable(" + n + ", " + zero + ")", ARGUMENT, s,
                        () -> s.addVariable(n, zero));
            }
        }
        Check.same("2 addVariable(2, 1)", s.addVariable(2, 1), 0);
        Check.same("2 addVariable(4, 3)", s.addVariable(4, 3), 1);
        Check.same("2 addVariable(3, 0)", s.addVariable(3, 0), 2);
        Check.same("2 addVariable(2, 0)", s.addVariable(2, 0), 3);
        Check.same("2 digest()", s.digest(), digestOf(4, 2, 1, -1, 2, 4, 3, -1, 2, 3, 0, -1, 2,
                2, 0, -1, 2, 0));
        s.explore();
        failsAndChangesNothing("2 addVariable(2, 0), a fifth", STATE, s,
                () -> s.addVariable(2, 0));
        failsAndChangesNothing("2 addVariable(1, 0), a fifth", ARGUMENT, s,
                () -> s.addVariable(1, 0));
        failsAndChangesNothing("2 addVariable(2, 2), a fifth", ARGUMENT, s,
                () -> s.addVariable(2, 2));
        // A new variable is open, and takes part in the next exploration.
        QualitativeSimulator ramp = ramp();
        ramp.addVariable(2, 0);
        Check.same("2 firstCount()", explored(ramp).firstCount(), 9);
    }

    private static void promise3() {
        refuseConstraints();
        everyPair(EQUAL);
        everyPair(OPPOSITE);
        everyPair(RATE);
        everyPair(CONSTANT);
        everyPair(MATCH);
        everySum();
        sameVariableTwice();
    }

    private static void refuseConstraints() {
        QualitativeSimulator s = explored(with(3, 1, 3, 1));
        for (int kind : new int[] {Integer.MIN_VALUE, -1, 6, Integer.MAX_VALUE}) {
            failsAndChangesNothing("3 kind " + kind, ARGUMENT, s,
                    () -> s.addConstraint(kind, 0, 0, 0));
            failsAndChangesNothing("3 kind " + kind + ", no variable", ARGUMENT, s,
                    () -> s.addConstraint(kind, 9, 9, 9));
        }
        for (int no : new int[] {-1, 2, 4, Integer.MIN_VALUE, Integer.MAX_VALUE}) {
            for (int k = EQUAL; k <= MATCH; k++) {
                int kind = k;
                failsAndChangesNothing("3 kind " + kind + ", x " + no, INDEX, s,
                        () -> s.addConstraint(kind, no, 0, 0));
                if (kind != CONSTANT) {
                    failsAndChangesNothing("3 kind " + kind + ", y " + no, INDEX, s,
                            () -> s.addConstraint(kind, 0, no, 0));
                }
            }
            failsAndChangesNothing("3 SUM, z " + no, INDEX, s,
                    () -> s.addConstraint(SUM, 0, 0, no));
        }
        QualitativeSimulator full = with(3, 1, 3, 1);
        Check.same("3 CONSTANT", full.addConstraint(CONSTANT, 0, -7, 99), 0);
        Check.same("3 EQUAL", full.addConstraint(EQUAL, 0, 1, -7), 1);
        Check.same("3 OPPOSITE", full.addConstraint(OPPOSITE, 0, 1, 99), 2);
        Check.same("3 RATE", full.addConstraint(RATE, 0, 1, Integer.MIN_VALUE), 3);
        Check.same("3 MATCH", full.addConstraint(MATCH, 0, 1, Integer.MAX_VALUE), 4);
        Check.same("3 SUM", full.addConstraint(SUM, 0, 1, 1), 5);
        Check.same("3 a seventh", full.addConstraint(SUM, 1, 0, 1), 6);
        Check.same("3 an eighth", full.addConstraint(SUM, 1, 1, 1), 7);
        Check.same("3 digest()", full.digest(), digestOf(2, 3, 1, -1, 2, 3, 1, -1, 2,
                8, 4, 0, 1, 2, 5, 3, 3, 3));
        // All eight hold just where both variables rest at zero.
        Check.same("3 explore()", full.explore(), 2);
        failsAndChangesNothing("3 a ninth", STATE, full,
                () -> full.addConstraint(EQUAL, 0, 1, 0));
        failsAndChangesNothing("3 a ninth of kind 6", ARGUMENT, full,
                () -> full.addConstraint(6, 0, 1, 0));
        failsAndChangesNothing("3 a ninth of no variable", INDEX, full,
                () -> full.addConstraint(EQUAL, 0, 2, 0));
        QualitativeSimulator none = new QualitativeSimulator();
        failsAndChangesNothing("3 without variables", INDEX, none,
                () -> none.addConstraint(CONSTANT, 0, 0, 0));
    }

    private static int signOf(int value, int zero) {
        return Integer.signum(value - 2 * zero);
    }

    private static boolean pairAllowed(int kind, int vx, int dx, int vy, int dy) {
        int sx = signOf(vx, 1);
        int sy = signOf(vy, 2);
        switch (kind) {
            case EQUAL:
                return sx == sy && dx == dy;
            case OPPOSITE:
                return sx + sy == 0 && dx + dy == 0;
            case RATE:
                return dx == sy;
            case CONSTANT:
                return dx == 0;
            default:
                return (vx + vy) % 2 == 0;
        }
    }

    /** Gives everything, so that there is one first state or none. */
    private static void everyPair(int kind) {
        for (int vx = 0; vx <= 4; vx++) {
            for (int dx = -1; dx <= 1; dx++) {
                for (int vy = 0; vy <= 6; vy++) {
                    for (int dy = -1; dy <= 1; dy++) {
                        QualitativeSimulator s = with(3, 1, 4, 2);
                        s.addConstraint(kind, 0, 1, 0);
                        s.give(0, vx, dx);
                        s.give(1, vy, dy);
                        s.explore();
                        Check.same("3 kind " + kind + " of (" + vx + "," + dx + ")(" + vy + ","
                                + dy + ")", s.firstCount(),
                                pairAllowed(kind, vx, dx, vy, dy) ? 1 : 0);
                    }
                }
            }
        }
    }

    /** What the document lists: the possible signs of a sum, by those of the two numbers. */
    private static boolean canBeSum(int a, int b, int sum) {
        String[][] possible = {
            {"-", "-", "-0+"},
            {"-", "0", "+"},
            {"-0+", "+", "+"},
        };
        return possible[a + 1][b + 1].indexOf("-0+".charAt(sum + 1)) >= 0;
    }

    /** Values 0, 2 and 4 of a variable with its zero at 1 have the signs -1, 0 and 1. */
    private static void everySum() {
        for (int all = 0; all < 729; all++) {
            int sx = all % 3 - 1;
            int sy = all / 3 % 3 - 1;
            int sz = all / 9 % 3 - 1;
            int dx = all / 27 % 3 - 1;
            int dy = all / 81 % 3 - 1;
            int dz = all / 243 - 1;
            QualitativeSimulator s = with(3, 1, 3, 1, 3, 1);
            s.addConstraint(SUM, 2, 0, 1);
            s.give(2, 2 * sx + 2, dx);
            s.give(0, 2 * sy + 2, dy);
            s.give(1, 2 * sz + 2, dz);
            s.explore();
            boolean due = canBeSum(sx, sy, sz) && canBeSum(dx, dy, dz);
            Check.same("3 SUM of signs " + sx + " " + sy + " " + sz + ", directions " + dx + " "
                    + dy + " " + dz, s.firstCount(), due ? 1 : 0);
        }
    }

    private static int firstsWith(int kind, int x, int y, int z) {
        QualitativeSimulator s = with(3, 1);
        s.addConstraint(kind, x, y, z);
        return explored(s).firstCount();
    }

    private static void sameVariableTwice() {
        Check.same("3 EQUAL 0 0", firstsWith(EQUAL, 0, 0, 0), 15);
        Check.same("3 OPPOSITE 0 0", firstsWith(OPPOSITE, 0, 0, 0), 1);
        Check.same("3 RATE 0 0", firstsWith(RATE, 0, 0, 0), 5);
        Check.same("3 SUM 0 0 0", firstsWith(SUM, 0, 0, 0), 15);
        Check.same("3 MATCH 0 0", firstsWith(MATCH, 0, 0, 0), 15);
        QualitativeSimulator twice = with(3, 1, 2, 0);
        twice.addConstraint(SUM, 0, 0, 1);
        // The sum of a number with itself has its sign: 3 of 5 values have one of 0 and above,
        // the zero with 1 value of the other variable, and the two above it with 2 values each.
        Check.same("3 SUM 0 0 1", explored(twice).firstCount(), (1 + 2 * 2) * 3);
    }

    private static void promise4() {
        QualitativeSimulator s = with(3, 1, 3, 1);
        failsAndChangesNothing("4 dropConstraint()", STATE, s, () -> s.dropConstraint());
        s.explore();
        failsAndChangesNothing("4 dropConstraint()", STATE, s, () -> s.dropConstraint());
        s.addConstraint(CONSTANT, 0, 0, 0);
        s.addConstraint(EQUAL, 0, 1, 0);
        s.addConstraint(MATCH, 0, 1, 0);
        Check.same("4 dropConstraint()", s.dropConstraint(), 2);
        Check.same("4 digest()", s.digest(), digestOf(2, 3, 1, -1, 2, 3, 1, -1, 2, 2, 4, 0));
        // Both steady and of the same sign: 2 * 2 pairs below, 1 at, 2 * 2 above zero.
        Check.same("4 firstCount()", explored(s).firstCount(), 9);
        Check.same("4 dropConstraint()", s.dropConstraint(), 1);
        Check.same("4 firstCount()", explored(s).firstCount(), 5 * 15);
        Check.same("4 dropConstraint()", s.dropConstraint(), 0);
        failsAndChangesNothing("4 dropConstraint()", STATE, s, () -> s.dropConstraint());
        Check.same("4 addConstraint()", s.addConstraint(MATCH, 0, 1, 0), 0);
    }

    private static void promise5() {
        QualitativeSimulator s = with(2, 0, 4, 1);
        s.explore();
        for (int no : new int[] {-1, 2, 4, Integer.MIN_VALUE, Integer.MAX_VALUE}) {
            failsAndChangesNothing("5 give(" + no + ", 0, 0)", INDEX, s, () -> s.give(no, 0, 0));
            failsAndChangesNothing("5 give(" + no + ", 9, 9)", INDEX, s, () -> s.give(no, 9, 9));
        }
        for (int value : new int[] {-2, 3, Integer.MIN_VALUE, Integer.MAX_VALUE}) {
            failsAndChangesNothing("5 give(0, " + value + ", 0)", ARGUMENT, s,
                    () -> s.give(0, value, 0));
        }
        failsAndChangesNothing("5 give(1, 7, 0)", ARGUMENT, s, () -> s.give(1, 7, 0));
        for (int direction : new int[] {-2, 3, Integer.MIN_VALUE, Integer.MAX_VALUE}) {
            failsAndChangesNothing("5 give(0, 0, " + direction + ")", ARGUMENT, s,
                    () -> s.give(0, 0, direction));
        }
        Check.same("5 give(0, -1, 2)", s.give(0, -1, 2), false);
        Check.same("5 give(0, 2, 2)", s.give(0, 2, 2), true);
        Check.same("5 give(0, 2, 2)", s.give(0, 2, 2), false);
        Check.same("5 give(0, 2, -1)", s.give(0, 2, -1), true);
        Check.same("5 give(0, -1, -1)", s.give(0, -1, -1), true);
        Check.same("5 give(1, 6, 1)", s.give(1, 6, 1), true);
        Check.same("5 give(1, 5, 0)", s.give(1, 5, 0), true);
        Check.same("5 digest()", s.digest(), digestOf(2, 2, 0, -1, -1, 4, 1, 5, 0, 0));
        Check.same("5 firstCount()", explored(s).firstCount(), 3);
        Check.same("5 state 0", state(s, 0), "i(0,-1)(5,0)");
        Check.same("5 state 1", state(s, 1), "i(1,-1)(5,0)");
        Check.same("5 state 2", state(s, 2), "i(2,-1)(5,0)");
        Check.same("5 give(0, 1, 2)", s.give(0, 1, 2), true);
        Check.same("5 firstCount()", explored(s).firstCount(), 3);
        Check.same("5 state 0", state(s, 0), "i(1,-1)(5,0)");
        Check.same("5 state 2", state(s, 2), "i(1,1)(5,0)");
    }

    private static void promise6() {
        QualitativeSimulator s = with(2, 0, 2, 0, 2, 0, 2, 0);
        Check.same("6 open()", s.open(), 0);
        s.give(0, 1, 2);
        s.give(1, -1, -1);
        s.give(3, 0, 0);
        Check.same("6 open()", s.open(), 3);
        Check.same("6 digest()", s.digest(), digestOf(4, 2, 0, -1, 2, 2, 0, -1, 2, 2, 0, -1, 2,
                2, 0, -1, 2, 0));
        Check.same("6 open()", s.open(), 0);
        s.give(2, 0, 0);
        s.give(2, -1, 2);
        Check.same("6 open()", s.open(), 0);
        QualitativeSimulator ramp = ramp();
        ramp.open();
        Check.same("6 firstCount()", explored(ramp).firstCount(), 9);
    }

    private static void promise7() {
        QualitativeSimulator s = new QualitativeSimulator();
        for (int n = 0; n < 4; n++) {
            Check.same("7 variableCount()", s.variableCount(), n);
            s.addVariable(2, 0);
        }
        Check.same("7 variableCount()", s.variableCount(), 4);
        Check.fails("7 a fifth", STATE, () -> s.addVariable(2, 0));
        Check.same("7 variableCount()", s.variableCount(), 4);
    }

    private static void promise8() {
        for (int landmarks = 2; landmarks <= 4; landmarks++) {
            for (int zero = 0; zero < landmarks; zero++) {
                QualitativeSimulator s = explored(with(2, 1, landmarks, zero));
                for (int value = 0; value <= 2 * landmarks - 2; value++) {
                    int due = value == 2 * zero ? 0 : value > 2 * zero ? 1 : -1;
                    Check.same("8 sign(1, " + value + ")", s.sign(1, value), due);
                }
                int tooGreat = 2 * landmarks - 1;
                failsAndChangesNothing("8 sign(1, " + tooGreat + ")", ARGUMENT, s,
                        () -> s.sign(1, tooGreat));
                for (int wrong : WRONG_NUMBERS) {
                    failsAndChangesNothing("8 sign(1, " + wrong + ")", ARGUMENT, s,
                            () -> s.sign(1, wrong));
                    failsAndChangesNothing("8 sign(" + wrong + ", " + wrong + ")", INDEX, s,
                            () -> s.sign(wrong, wrong));
                }
                failsAndChangesNothing("8 sign(2, 0)", INDEX, s, () -> s.sign(2, 0));
                Check.same("8 isExplored()", s.isExplored(), true);
            }
        }
    }

    private static void promise9() {
        QualitativeSimulator ramp = ramp();
        Check.same("9 explore()", ramp.explore(), 11);
        Check.same("9 explore() again", ramp.explore(), 11);
        String[] due = {"i(0,1)", "s(1,1)", "i(1,0)", "i(2,0)", "i(2,1)", "s(1,-1)", "s(1,0)",
            "s(2,0)", "i(0,-1)", "i(0,0)", "s(0,0)"};
        for (int i = 0; i < due.length; i++) {
            Check.same("9 state " + i, state(ramp, i), due[i]);
        }
        Check.same("9 explore() of nothing", new QualitativeSimulator().explore(), 2);
        Check.same("9 explore() of a contradiction", contradiction().explore(), 0);
        Check.same("9 explore() of 441 first states", tooManyFirsts().explore(), 250);
        Check.same("9 explore() of 250 states", justEnough().explore(), 250);
        Check.same("9 explore() of 251 states", oneTooMany().explore(), 250);
        everyChange();
        orderOfFirsts();
        sameInstantIsNoSuccessor();
        cutOffGraph();
    }

    /** Every instant of a variable with three landmarks, and every span that can come of one. */
    private static void everyChange() {
        QualitativeSimulator s = with(3, 1);
        Check.same("9 explore()", s.explore(), 24);
        String[] spans = {"s(0,0)", "s(1,1)", "s(1,-1)", "s(1,0)", "s(2,0)", "s(3,1)", "s(3,-1)",
            "s(3,0)", "s(4,0)"};
        for (int i = 0; i < 15; i++) {
            Check.same("9 state " + i, state(s, i), "i(" + i / 3 + "," + (i % 3 - 1) + ")");
        }
        for (int i = 0; i < spans.length; i++) {
            Check.same("9 state " + (15 + i), state(s, 15 + i), spans[i]);
        }
        String[] due = {"", "15 16", "16", "17", "16 17 18", "16", "17", "17 19 20", "20", "21",
            "20 21 22", "20", "21", "21 23", "", "", "4 7 8", "0 1 4", "", "", "10 13 14",
            "6 7 10", "", ""};
        for (int i = 0; i < due.length; i++) {
            Check.same("9 successors of " + i, successors(s, i), due[i]);
        }
    }

    private static void orderOfFirsts() {
        QualitativeSimulator s = explored(with(2, 0, 2, 1));
        Check.same("9 firstCount()", s.firstCount(), 81);
        for (int i = 0; i < 81; i++) {
            Check.same("9 state " + i, state(s, i), "i(" + i / 27 + "," + (i / 9 % 3 - 1) + ")("
                    + i / 3 % 3 + "," + (i % 3 - 1) + ")");
        }
    }

    /** Just an instant that is the same in all variables is none of the successors. */
    private static void sameInstantIsNoSuccessor() {
        QualitativeSimulator s = with(2, 0, 2, 0);
        s.addConstraint(CONSTANT, 0, 0, 0);
        s.give(0, 1, 0);
        s.give(1, 0, 1);
        s.explore();
        Check.same("9 state 1", state(s, 1), "s(1,0)(1,1)");
        Check.same("9 successors of 1", successors(s, 1), "2 3 4");
        Check.same("9 state 2", state(s, 2), "i(1,0)(1,0)");
        Check.same("9 state 3", state(s, 3), "i(1,0)(2,0)");
        Check.same("9 state 4", state(s, 4), "i(1,0)(2,1)");
    }

    /** An exploration that was cut off is the beginning of the whole one. */
    private static void cutOffGraph() {
        QualitativeSimulator s = explored(oneTooMany());
        Reference whole = new Reference(1000);
        whole.addVariable(3, 0);
        whole.addVariable(2, 1);
        whole.addVariable(3, 1);
        whole.addConstraint(SUM, 1, 2, 1);
        whole.addConstraint(OPPOSITE, 1, 2, 0);
        whole.give(2, -1, -1);
        Check.same("9 states of the whole", whole.explore(), 251);
        int left = 0;
        for (int i = 0; i < 250; i++) {
            StringBuilder due = new StringBuilder();
            for (int k = 0; k < whole.successorCount(i); k++) {
                if (whole.successor(i, k) < 250) {
                    due.append(due.length() == 0 ? "" : " ").append(whole.successor(i, k));
                } else {
                    left++;
                }
            }
            Check.same("9 successors of " + i, successors(s, i), due.toString());
            Check.same("9 value(" + i + ", 0)", s.value(i, 0), whole.value(i, 0));
            Check.same("9 distance(" + i + ")", s.distance(i), whole.distance(i));
        }
        Check.same("9 links that lead out", left > 0, true);
    }

    private static void promise10() {
        QualitativeSimulator s = ramp();
        s.addConstraint(EQUAL, 0, 0, 0);
        Check.same("10 isExplored()", s.isExplored(), false);
        s.explore();
        Check.same("10 isExplored()", s.isExplored(), true);
        keepsExploration(s);
        s.give(0, 0, 1);
        Check.same("10 isExplored() after a give that changes nothing", s.isExplored(), false);
        s.explore();
        s.open();
        Check.same("10 isExplored() after open", s.isExplored(), false);
        s.explore();
        s.open();
        Check.same("10 isExplored() after an open that changes nothing", s.isExplored(), false);
        s.explore();
        s.addConstraint(EQUAL, 0, 0, 0);
        Check.same("10 isExplored() after addConstraint", s.isExplored(), false);
        s.explore();
        s.dropConstraint();
        Check.same("10 isExplored() after dropConstraint", s.isExplored(), false);
        s.explore();
        s.addVariable(2, 0);
        Check.same("10 isExplored() after addVariable", s.isExplored(), false);
        QualitativeSimulator none = explored(new QualitativeSimulator());
        none.open();
        Check.same("10 isExplored() after open of nothing", none.isExplored(), false);
    }

    private static void keepsExploration(QualitativeSimulator s) {
        Check.fails("10 addVariable(1, 0)", ARGUMENT, () -> s.addVariable(1, 0));
        Check.fails("10 addConstraint(9, 0, 0, 0)", ARGUMENT, () -> s.addConstraint(9, 0, 0, 0));
        Check.fails("10 addConstraint(0, 0, 1, 0)", INDEX, () -> s.addConstraint(0, 0, 1, 0));
        Check.fails("10 give(1, 0, 0)", INDEX, () -> s.give(1, 0, 0));
        Check.fails("10 give(0, 3, 0)", ARGUMENT, () -> s.give(0, 3, 0));
        Check.fails("10 give(0, 0, 3)", ARGUMENT, () -> s.give(0, 0, 3));
        s.variableCount();
        s.sign(0, 0);
        s.explore();
        s.digest();
        s.hasCycle();
        s.ways(9);
        s.rest();
        Check.same("10 isExplored() after questions", s.isExplored(), true);
        Check.same("10 explore()", s.explore(), 11);
    }

    private static void promise11() {
        QualitativeSimulator s = ramp();
        needsExploration("11 isComplete()", s, () -> s.isComplete());
        Check.same("11 isComplete()", explored(ramp()).isComplete(), true);
        Check.same("11 no state", explored(contradiction()).isComplete(), true);
        Check.same("11 no variable", explored(new QualitativeSimulator()).isComplete(), true);
        Check.same("11 441 first states", explored(tooManyFirsts()).isComplete(), false);
        Check.same("11 250 states", explored(justEnough()).isComplete(), true);
        Check.same("11 251 states", explored(oneTooMany()).isComplete(), false);
        QualitativeSimulator later = explored(tooManyFirsts());
        later.give(0, 0, 0);
        later.give(1, 0, -1);
        Check.same("11 fewer states", explored(later).isComplete(), true);
    }

    private static void promise12() {
        QualitativeSimulator s = ramp();
        needsExploration("12 firstCount()", s, () -> s.firstCount());
        Check.same("12 firstCount()", explored(ramp()).firstCount(), 1);
        Check.same("12 no state", explored(contradiction()).firstCount(), 0);
        Check.same("12 no variable", explored(new QualitativeSimulator()).firstCount(), 1);
        Check.same("12 441 first states", explored(tooManyFirsts()).firstCount(), 250);
        Check.same("12 251 states", explored(oneTooMany()).firstCount(), 75);
        Check.same("12 open", explored(with(4, 2)).firstCount(), 21);
        Check.same("12 open", explored(with(2, 1)).firstCount(), 9);
    }

    private interface OfState {
        void ask(QualitativeSimulator s, int state);
    }

    /** What holds for each question about a state: no exploration first, then no such state. */
    private static void refuseStates(String what, OfState question) {
        QualitativeSimulator s = ramp();
        needsExploration(what, s, () -> question.ask(s, 0));
        QualitativeSimulator unexplored = ramp();
        failsAndChangesNothing(what + " of no state, unexplored", STATE, unexplored,
                () -> question.ask(unexplored, -1));
        QualitativeSimulator ramp = explored(ramp());
        for (int wrong : new int[] {-1, 11, 250, Integer.MIN_VALUE, Integer.MAX_VALUE}) {
            failsAndChangesNothing(what + " of state " + wrong, INDEX, ramp,
                    () -> question.ask(ramp, wrong));
        }
        QualitativeSimulator none = explored(contradiction());
        failsAndChangesNothing(what + " where no state is", INDEX, none,
                () -> question.ask(none, 0));
        QualitativeSimulator full = explored(tooManyFirsts());
        failsAndChangesNothing(what + " of state 250", INDEX, full,
                () -> question.ask(full, 250));
    }

    private static void refuseVariables(String what, OfState questionOfVariable) {
        QualitativeSimulator ramp = explored(ramp());
        for (int wrong : new int[] {-1, 1, 4, Integer.MIN_VALUE, Integer.MAX_VALUE}) {
            failsAndChangesNothing(what + " of variable " + wrong, INDEX, ramp,
                    () -> questionOfVariable.ask(ramp, wrong));
        }
        QualitativeSimulator none = explored(new QualitativeSimulator());
        failsAndChangesNothing(what + " without variables", INDEX, none,
                () -> questionOfVariable.ask(none, 0));
    }

    private static void promise13() {
        refuseStates("13 value", (s, state) -> s.value(state, 0));
        refuseVariables("13 value", (s, variable) -> s.value(0, variable));
        QualitativeSimulator ramp = explored(ramp());
        int[] due = {0, 1, 1, 2, 2, 1, 1, 2, 0, 0, 0};
        for (int i = 0; i < due.length; i++) {
            Check.same("13 value(" + i + ", 0)", ramp.value(i, 0), due[i]);
        }
        QualitativeSimulator four = with(4, 0, 3, 0, 2, 0, 4, 3);
        four.give(0, 6, -1);
        four.give(1, 3, 0);
        four.give(2, 0, 1);
        four.give(3, 5, 1);
        four.explore();
        Check.same("13 value(0, 0)", four.value(0, 0), 6);
        Check.same("13 value(0, 1)", four.value(0, 1), 3);
        Check.same("13 value(0, 2)", four.value(0, 2), 0);
        Check.same("13 value(0, 3)", four.value(0, 3), 5);
        Check.same("13 value(1, 0)", four.value(1, 0), 5);
        Check.same("13 value(1, 2)", four.value(1, 2), 1);
    }

    private static void promise14() {
        refuseStates("14 direction", (s, state) -> s.direction(state, 0));
        refuseVariables("14 direction", (s, variable) -> s.direction(0, variable));
        QualitativeSimulator ramp = explored(ramp());
        int[] due = {1, 1, 0, 0, 1, -1, 0, 0, -1, 0, 0};
        for (int i = 0; i < due.length; i++) {
            Check.same("14 direction(" + i + ", 0)", ramp.direction(i, 0), due[i]);
        }
        QualitativeSimulator two = with(4, 0, 4, 0);
        two.give(0, 6, -1);
        two.give(1, 1, 1);
        two.explore();
        Check.same("14 direction(0, 0)", two.direction(0, 0), -1);
        Check.same("14 direction(0, 1)", two.direction(0, 1), 1);
    }

    private static void promise15() {
        refuseStates("15 isInstant", (s, state) -> s.isInstant(state));
        QualitativeSimulator ramp = explored(ramp());
        String due = "isiiisssiis";
        for (int i = 0; i < due.length(); i++) {
            Check.same("15 isInstant(" + i + ")", ramp.isInstant(i), due.charAt(i) == 'i');
        }
        QualitativeSimulator none = explored(new QualitativeSimulator());
        Check.same("15 isInstant(0)", none.isInstant(0), true);
        Check.same("15 isInstant(1)", none.isInstant(1), false);
    }

    private static void promise16() {
        refuseStates("16 successorCount", (s, state) -> s.successorCount(state));
        QualitativeSimulator ramp = explored(ramp());
        int[] due = {1, 3, 3, 2, 0, 3, 0, 0, 0, 2, 0};
        for (int i = 0; i < due.length; i++) {
            Check.same("16 successorCount(" + i + ")", ramp.successorCount(i), due[i]);
        }
        QualitativeSimulator none = explored(new QualitativeSimulator());
        Check.same("16 successorCount(0)", none.successorCount(0), 1);
        Check.same("16 successorCount(1)", none.successorCount(1), 0);
        QualitativeSimulator full = explored(tooManyFirsts());
        for (int i = 0; i < 250; i++) {
            Check.same("16 successorCount(" + i + ")", full.successorCount(i), 0);
        }
    }

    private static void promise17() {
        refuseStates("17 successor", (s, state) -> s.successor(state, 0));
        QualitativeSimulator ramp = explored(ramp());
        String[] due = {"1", "2 3 4", "1 5 6", "5 7", "", "2 8 9", "", "", "", "1 10", ""};
        for (int i = 0; i < due.length; i++) {
            int state = i;
            Check.same("17 successors of " + i, successors(ramp, i), due[i]);
            int count = ramp.successorCount(i);
            failsAndChangesNothing("17 successor(" + i + ", " + count + ")", INDEX, ramp,
                    () -> ramp.successor(state, count));
            for (int wrong : WRONG_NUMBERS) {
                failsAndChangesNothing("17 successor(" + i + ", " + wrong + ")", INDEX, ramp,
                        () -> ramp.successor(state, wrong));
            }
        }
    }

    private static void promise18() {
        refuseStates("18 distance", (s, state) -> s.distance(state));
        QualitativeSimulator ramp = explored(ramp());
        int[] due = {0, 1, 2, 2, 2, 3, 3, 3, 4, 4, 5};
        for (int i = 0; i < due.length; i++) {
            Check.same("18 distance(" + i + ")", ramp.distance(i), due[i]);
        }
        QualitativeSimulator none = explored(new QualitativeSimulator());
        Check.same("18 distance(0)", none.distance(0), 0);
        Check.same("18 distance(1)", none.distance(1), 1);
    }

    private static void promise19() {
        refuseStates("19 isAtRest", (s, state) -> s.isAtRest(state));
        QualitativeSimulator ramp = explored(ramp());
        boolean[] due = {false, false, true, true, false, false, true, true, false, true, true};
        for (int i = 0; i < due.length; i++) {
            Check.same("19 isAtRest(" + i + ")", ramp.isAtRest(i), due[i]);
        }
        QualitativeSimulator none = explored(new QualitativeSimulator());
        Check.same("19 isAtRest(0) without variables", none.isAtRest(0), true);
        Check.same("19 isAtRest(1) without variables", none.isAtRest(1), true);
        QualitativeSimulator two = explored(with(2, 0, 2, 0));
        for (int i = 0; i < 81; i++) {
            Check.same("19 isAtRest(" + i + ")", two.isAtRest(i), i / 9 % 3 == 1 && i % 3 == 1);
        }
    }

    private static void promise20() {
        QualitativeSimulator s = ramp();
        needsExploration("20 endCount()", s, () -> s.endCount());
        Check.same("20 endCount()", explored(ramp()).endCount(), 5);
        Check.same("20 no state", explored(contradiction()).endCount(), 0);
        Check.same("20 no variable", explored(new QualitativeSimulator()).endCount(), 1);
        Check.same("20 441 first states", explored(tooManyFirsts()).endCount(), 250);
        Check.same("20 still", explored(still()).endCount(), 1);
        Check.same("20 all changes", explored(with(3, 1)).endCount(), 2 + 5);
    }

    private static void promise21() {
        QualitativeSimulator s = ramp();
        needsExploration("21 soonest(0, 0)", s, () -> s.soonest(0, 0));
        QualitativeSimulator unexplored = ramp();
        failsAndChangesNothing("21 soonest(9, 9), unexplored", STATE, unexplored,
                () -> unexplored.soonest(9, 9));
        refuseVariables("21 soonest", (t, variable) -> t.soonest(variable, 99));
        QualitativeSimulator ramp = explored(ramp());
        for (int wrong : new int[] {-1, 3, Integer.MIN_VALUE, Integer.MAX_VALUE}) {
            failsAndChangesNothing("21 soonest(0, " + wrong + ")", ARGUMENT, ramp,
                    () -> ramp.soonest(0, wrong));
        }
        Check.same("21 soonest(0, 0)", ramp.soonest(0, 0), 0);
        Check.same("21 soonest(0, 1)", ramp.soonest(0, 1), 1);
        Check.same("21 soonest(0, 2)", ramp.soonest(0, 2), 2);
        Check.same("21 no state", explored(contradiction()).soonest(0, 0), -1);
        QualitativeSimulator still = explored(still());
        Check.same("21 soonest(0, 2)", still.soonest(0, 2), 0);
        Check.same("21 soonest(0, 1)", still.soonest(0, 1), -1);
        Check.same("21 soonest(0, 4)", still.soonest(0, 4), -1);
        QualitativeSimulator far = with(4, 0);
        far.give(0, 0, 1);
        far.explore();
        for (int value = 0; value <= 6; value++) {
            Check.same("21 soonest(0, " + value + ")", far.soonest(0, value), value);
        }
    }

    private static void promise22() {
        QualitativeSimulator s = ramp();
        needsExploration("22 hasCycle()", s, () -> s.hasCycle());
        Check.same("22 hasCycle()", explored(ramp()).hasCycle(), true);
        Check.same("22 no state", explored(contradiction()).hasCycle(), false);
        Check.same("22 no variable", explored(new QualitativeSimulator()).hasCycle(), false);
        Check.same("22 441 first states", explored(tooManyFirsts()).hasCycle(), false);
        Check.same("22 still", explored(still()).hasCycle(), false);
        QualitativeSimulator apart = with(3, 0, 2, 0);
        apart.addConstraint(RATE, 0, 1, 0);
        apart.addConstraint(CONSTANT, 1, 0, 0);
        apart.give(0, 0, 2);
        apart.give(1, 1, 0);
        apart.explore();
        // A steady inflow: up to the top, and no way back.
        Check.same("22 hasCycle() of an inflow", apart.hasCycle(), false);
        QualitativeSimulator spring = with(3, 1, 3, 1, 3, 1);
        spring.addConstraint(RATE, 0, 1, 0);
        spring.addConstraint(RATE, 1, 2, 0);
        spring.addConstraint(OPPOSITE, 0, 2, 0);
        spring.give(0, 3, 0);
        spring.explore();
        Check.same("22 hasCycle() of a spring", spring.hasCycle(), true);
    }

    private static void promise23() {
        QualitativeSimulator s = ramp();
        needsExploration("23 ways(0)", s, () -> s.ways(0));
        QualitativeSimulator unexplored = ramp();
        failsAndChangesNothing("23 ways(-1), unexplored", STATE, unexplored,
                () -> unexplored.ways(-1));
        QualitativeSimulator ramp = explored(ramp());
        for (int wrong : new int[] {-1, 101, Integer.MIN_VALUE, Integer.MAX_VALUE}) {
            failsAndChangesNothing("23 ways(" + wrong + ")", ARGUMENT, ramp,
                    () -> ramp.ways(wrong));
        }
        long[] due = {1, 1, 3, 5, 9};
        for (int steps = 0; steps < due.length; steps++) {
            Check.same("23 ways(" + steps + ")", ramp.ways(steps), due[steps]);
        }
        QualitativeSimulator full = explored(tooManyFirsts());
        Check.same("23 ways(0)", full.ways(0), 250);
        Check.same("23 ways(1)", full.ways(1), 0);
        Check.same("23 ways(100)", full.ways(100), 0);
        QualitativeSimulator none = explored(new QualitativeSimulator());
        Check.same("23 ways(0)", none.ways(0), 1);
        Check.same("23 ways(1)", none.ways(1), 1);
        Check.same("23 ways(2)", none.ways(2), 0);
        Check.same("23 no state", explored(contradiction()).ways(0), 0);
        waysThatWrapAround();
    }

    /** Counted once more with big numbers, of which the last 64 bits are due. */
    private static void waysThatWrapAround() {
        QualitativeSimulator s = with(2, 0, 2, 0, 2, 0);
        s.give(0, 1, 1);
        s.give(1, 1, -1);
        s.give(2, 1, 1);
        int count = s.explore();
        BigInteger[] ending = new BigInteger[count];
        Arrays.fill(ending, BigInteger.ZERO);
        ending[0] = BigInteger.ONE;
        for (int step = 0; step < 100; step++) {
            BigInteger[] longer = new BigInteger[count];
            Arrays.fill(longer, BigInteger.ZERO);
            for (int i = 0; i < count; i++) {
                for (int k = 0; k < s.successorCount(i); k++) {
                    int next = s.successor(i, k);
                    longer[next] = longer[next].add(ending[i]);
                }
            }
            ending = longer;
        }
        BigInteger all = BigInteger.ZERO;
        for (BigInteger one : ending) {
            all = all.add(one);
        }
        Check.same("23 more than 64 bits", all.bitLength() > 64, true);
        Check.same("23 ways(100)", s.ways(100), all.longValue());
    }

    private static void promise24() {
        QualitativeSimulator s = ramp();
        needsExploration("24 rest()", s, () -> s.rest());
        Check.same("24 rest()", explored(ramp()).rest(), 6.0 / 11.0);
        Check.same("24 no state", explored(contradiction()).rest(), 0.0);
        Check.same("24 no variable", explored(new QualitativeSimulator()).rest(), 1.0);
        Check.same("24 still", explored(still()).rest(), 1.0);
        Check.same("24 all changes", explored(with(3, 1)).rest(), 10.0 / 24.0);
        // Of the first 250 instants of two variables with seven values each, those with the
        // numbers 21 * (3 * a + 1) + 3 * b + 1 rest: 7 each for a = 0, 1, 2 and 3.
        Check.same("24 441 first states", explored(tooManyFirsts()).rest(), 28.0 / 250.0);
    }

    private static void promise25() {
        QualitativeSimulator s = new QualitativeSimulator();
        Check.same("25 digest()", s.digest(), 131L * 31 * 31);
        s.explore();
        Check.same("25 digest()", s.digest(), digestOf(0, 0, 2, 1, 0));
        QualitativeSimulator ramp = ramp();
        Check.same("25 digest()", ramp.digest(), digestOf(1, 2, 0, 0, 1, 0));
        ramp.explore();
        Check.same("25 digest()", ramp.digest(), digestOf(1, 2, 0, 0, 1, 0, 11,
                0, 1, 1, 1, 1, 3, 1, 0, 3, 2, 0, 2, 2, 1, 0, 1, -1, 3, 1, 0, 0, 2, 0, 0,
                0, -1, 0, 0, 0, 2, 0, 0, 0));
        ramp.give(0, -1, -1);
        Check.same("25 digest()", ramp.digest(), digestOf(1, 2, 0, -1, -1, 0));
        QualitativeSimulator none = contradiction();
        Check.same("25 digest()", none.digest(), digestOf(1, 3, 1, -1, 1, 1, 4));
        none.explore();
        Check.same("25 digest()", none.digest(), digestOf(1, 3, 1, -1, 1, 1, 4, 0));
        QualitativeSimulator two = with(2, 0, 3, 2);
        two.addConstraint(RATE, 0, 1, 0);
        two.addConstraint(MATCH, 1, 0, 0);
        two.addConstraint(CONSTANT, 1, 0, 0);
        two.give(0, 2, 0);
        two.explore();
        // i(2,0)(4,0) and the span of the same, where variable 1 stays at its zero.
        Check.same("25 digest()", two.digest(), digestOf(2, 2, 0, 2, 0, 3, 2, -1, 2, 3, 2, 5, 4,
                2, 2, 0, 4, 0, 1, 2, 0, 4, 0, 0));
    }
}
