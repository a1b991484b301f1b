import java.math.BigInteger;
import java.util.ArrayList;
import java.util.List;

/** Numbers that grow beyond 64 bits, counted once more with such as never wrap around. */
public final class WrapAroundTest {
    public static void main(String[] args) {
        waysOfOneVariable();
        waysOfThreeVariables();
        digestOfSmallModels();
        digestOfManyStates();
        Check.end();
    }

    /**
     * From i(1,0) of a variable with two landmarks, the ways of 2 * m steps are 2 * 3^m: two moving
     * spans follow; from each, in two steps, three ways lead to such spans again: by i(1,0) to
     * both, by the landmark, steady, to one. The ways of 2 * m + 1 steps are 10 * 3^(m - 1), as
     * there are five ways of two steps from a moving span.
     */
    private static BigInteger waysFromBetween(int steps) {
        if (steps <= 1) {
            return BigInteger.valueOf(steps == 0 ? 1 : 3);
        }
        return steps % 2 == 0
                ? BigInteger.valueOf(3).pow(steps / 2).multiply(BigInteger.TWO)
                : BigInteger.valueOf(3).pow(steps / 2 - 1).multiply(BigInteger.TEN);
    }

    private static void waysOfOneVariable() {
        Check.about("Returns their number, which wraps around as a 64-bit integer.");
        Run run = Run.of("addVariable(2, 0)", "give(0, 1, 0)", "explore()");
        for (int steps = 0; steps <= 100; steps++) {
            run.due("ways(" + steps + ")", waysFromBetween(steps).longValue());
        }
        // The last that has room in 63 bits, the one in 64 bits, and the first that has in neither.
        Check.same("bits of 78 steps", waysFromBetween(78).bitLength(), 63);
        run.due("ways(78)", "8105110306037952534");
        Check.same("bits of 79 steps", waysFromBetween(79).bitLength(), 64);
        run.due("ways(79)", "-4938226896979630726");
        Check.same("bits of 80 steps", waysFromBetween(80).bitLength(), 65);
        run.due("ways(80)", "5868586844404305986");
    }

    /** By the successors that are told, where the numbers of ways are far beyond 64 bits. */
    private static void waysOfThreeVariables() {
        Run run = Run.of("addVariable(2, 0)", "addVariable(2, 0)", "addVariable(2, 0)",
                "give(0, 1, 1)", "give(1, 1, -1)", "give(2, 1, 1)");
        int states = run.count("explore");
        List<BigInteger> ending = new ArrayList<>();
        for (int i = 0; i < states; i++) {
            ending.add(i == 0 ? BigInteger.ONE : BigInteger.ZERO);
        }
        for (int steps = 0; steps <= 100; steps++) {
            BigInteger all = ending.stream().reduce(BigInteger.ZERO, BigInteger::add);
            run.due("ways(" + steps + ")", all.longValue());
            Check.same("bits are many", steps < 100 || all.bitLength() > 128, true);
            ending = oneStepFurther(run, ending);
        }
    }

    private static List<BigInteger> oneStepFurther(Run run, List<BigInteger> ending) {
        List<BigInteger> longer = new ArrayList<>();
        for (int i = 0; i < ending.size(); i++) {
            longer.add(BigInteger.ZERO);
        }
        for (int i = 0; i < ending.size(); i++) {
            int successors = run.count("successorCount", i);
            for (int k = 0; k < successors; k++) {
                int next = run.count("successor", i, k);
                longer.set(next, longer.get(next).add(ending.get(i)));
            }
        }
        return longer;
    }

    private static BigInteger digest(List<Integer> numbers) {
        BigInteger d = BigInteger.valueOf(131);
        for (int x : numbers) {
            d = d.multiply(BigInteger.valueOf(31)).add(BigInteger.valueOf(x));
        }
        return d;
    }

    /** With eleven numbers nothing has to wrap around yet, with twelve something has. */
    private static void digestOfSmallModels() {
        Check.about("d becomes d * 31 + x, which wraps around as a 64-bit integer");
        Run run = Run.of();
        run.due("digest()", 131 * 31 * 31);
        run.and("addVariable(2, 0)", "addVariable(4, 3)", "give(1, 5, -1)",
                "addConstraint(MATCH, 0, 1, 0)");
        BigInteger eleven = digest(List.of(2, 2, 0, -1, 2, 4, 3, 5, -1, 1, 5));
        Check.same("bits of eleven numbers", eleven.bitLength(), 62);
        run.due("digest()", eleven);
        run.and("addConstraint(EQUAL, 0, 1, 0)");
        BigInteger twelve = digest(List.of(2, 2, 0, -1, 2, 4, 3, 5, -1, 2, 5, 0));
        Check.same("bits of twelve numbers", twelve.bitLength(), 67);
        run.due("digest()", twelve.longValue());
    }

    /** 250 states of four variables: some 2,250 numbers. */
    private static void digestOfManyStates() {
        Run run = Run.of("addVariable(2, 1)", "addVariable(3, 0)", "addVariable(4, 3)",
                "addVariable(4, 1)", "addConstraint(SUM, 2, 1, 3)", "give(3, 0, -1)");
        run.due("explore()", 250);
        List<Integer> numbers = new ArrayList<>(List.of(4, 2, 1, -1, 2, 3, 0, -1, 2, 4, 3, -1, 2,
                4, 1, 0, -1, 1, 3, 250));
        for (int i = 0; i < 250; i++) {
            for (int v = 0; v < 4; v++) {
                numbers.add(run.count("value", i, v));
                numbers.add(run.count("direction", i, v));
            }
            numbers.add(run.count("successorCount", i));
        }
        run.due("digest()", digest(numbers).longValue());
    }
}
