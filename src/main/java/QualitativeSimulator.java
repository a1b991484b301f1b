import java.util.Arrays;

/**
 * A simulator that knows quantities only by landmarks, intervals between them, and directions of
 * change. From constraints between variables it finds all states that are possible at first, and
 * all that can follow, as a graph.
 *
 * <p>Inside, a value and a direction of one variable are one number, its code: 3 * value +
 * direction + 1. A set of codes is an int with a bit for each; written in octal, it has one digit
 * for each value, and the digit has a bit for each direction. A set of signs or of directions is
 * such a digit alone: 1 for -1, 2 for 0, 4 for 1.
 */
public final class QualitativeSimulator {
    private static final int MOST_VARIABLES = 4;
    private static final int FEWEST_LANDMARKS = 2;
    private static final int MOST_LANDMARKS = 4;
    private static final int MOST_CONSTRAINTS = 8;
    private static final int MOST_STATES = 250;
    private static final int MOST_STEPS = 100;
    private static final int OPEN_VALUE = -1;
    private static final int OPEN_DIRECTION = 2;

    private static final int EQUAL = 0;
    private static final int OPPOSITE = 1;
    private static final int RATE = 2;
    private static final int SUM = 3;
    private static final int CONSTANT = 4;
    private static final int MATCH = 5;

    /** More than the greatest code, which is that of value 6 and direction 1. */
    private static final int CODES = 21;

    private static final int CODE_BITS = 5;
    private static final int CODE_MASK = 31;

    /** Every value, falling; times a digit, every value with the directions of the digit. */
    private static final int EACH_VALUE = 01111111;

    private static final int AT_LANDMARKS = 07070707;
    private static final int BETWEEN_LANDMARKS = 00707070;

    private static final int NEGATIVE = 1;
    private static final int NOUGHT = 2;
    private static final int POSITIVE = 4;
    private static final int ANY = 7;

    private final Model model;
    private final Graph graph;
    private final Search search;
    private boolean explored;

    public QualitativeSimulator() {
        model = new Model();
        graph = new Graph();
        search = new Search(model, graph);
        explored = false;
    }

    public int addVariable(int landmarks, int zero)
            throws IllegalArgumentException, IllegalStateException {
        if (landmarks < FEWEST_LANDMARKS || landmarks > MOST_LANDMARKS) {
            throw new IllegalArgumentException("a variable has 2 to 4 landmarks");
        }
        if (zero < 0 || zero >= landmarks) {
            throw new IllegalArgumentException("zero is one of the landmarks");
        }
        if (model.variables >= MOST_VARIABLES) {
            throw new IllegalStateException("there are 4 variables");
        }
        explored = false;
        return model.appendVariable(landmarks, zero);
    }

    public int addConstraint(int kind, int x, int y, int z)
            throws IllegalArgumentException, IndexOutOfBoundsException, IllegalStateException {
        if (kind < EQUAL || kind > MATCH) {
            throw new IllegalArgumentException("kinds go from 0 to 5");
        }
        // A number without a meaning is free: x, which is looked at anyway, stands for it.
        int second = kind == CONSTANT ? x : y;
        int third = kind == SUM ? z : x;
        requireVariable(x);
        requireVariable(second);
        requireVariable(third);
        if (model.constraints >= MOST_CONSTRAINTS) {
            throw new IllegalStateException("there are 8 constraints");
        }
        explored = false;
        return model.appendConstraint(kind, x, second, third);
    }

    public int dropConstraint() throws IllegalStateException {
        if (model.constraints <= 0) {
            throw new IllegalStateException("there is no constraint");
        }
        explored = false;
        model.constraints--;
        return model.constraints;
    }

    public boolean give(int variable, int value, int direction)
            throws IndexOutOfBoundsException, IllegalArgumentException {
        requireVariable(variable);
        if (value != OPEN_VALUE) {
            requireValue(variable, value);
        }
        if (direction < -1 || direction > OPEN_DIRECTION) {
            throw new IllegalArgumentException("directions go from -1 to 1, and 2 is an open one");
        }
        explored = false;
        return model.replaceGiven(variable, value, direction);
    }

    public int open() {
        explored = false;
        int opened = 0;
        for (int v = 0; v < model.variables; v++) {
            if (model.replaceGiven(v, OPEN_VALUE, OPEN_DIRECTION)) {
                opened++;
            }
        }
        return opened;
    }

    public int variableCount() {
        return model.variables;
    }

    public int sign(int variable, int value)
            throws IndexOutOfBoundsException, IllegalArgumentException {
        requireVariable(variable);
        requireValue(variable, value);
        int zero = 2 * model.zeros[variable];
        return value < zero ? -1 : value > zero ? 1 : 0;
    }

    public int explore() {
        if (!explored) {
            search.exploreAll();
            explored = true;
        }
        return graph.count;
    }

    public boolean isExplored() {
        return explored;
    }

    public boolean isComplete() throws IllegalStateException {
        requireExploration();
        return graph.complete;
    }

    public int firstCount() throws IllegalStateException {
        requireExploration();
        return graph.firsts;
    }

    public int value(int state, int variable)
            throws IllegalStateException, IndexOutOfBoundsException {
        requireExploration();
        requireState(state);
        requireVariable(variable);
        return valueOf(model.codeIn(graph.keys[state], variable));
    }

    public int direction(int state, int variable)
            throws IllegalStateException, IndexOutOfBoundsException {
        requireExploration();
        requireState(state);
        requireVariable(variable);
        return directionOf(model.codeIn(graph.keys[state], variable));
    }

    public boolean isInstant(int state) throws IllegalStateException, IndexOutOfBoundsException {
        requireExploration();
        requireState(state);
        return graph.instants[state];
    }

    public int successorCount(int state) throws IllegalStateException, IndexOutOfBoundsException {
        requireExploration();
        requireState(state);
        return graph.linkCount(state);
    }

    public int successor(int state, int index)
            throws IllegalStateException, IndexOutOfBoundsException {
        requireExploration();
        requireState(state);
        if (index < 0 || index >= graph.linkCount(state)) {
            throw new IndexOutOfBoundsException("there is no such successor");
        }
        return graph.links[graph.starts[state] + index];
    }

    public int distance(int state) throws IllegalStateException, IndexOutOfBoundsException {
        requireExploration();
        requireState(state);
        return graph.distances[state];
    }

    public boolean isAtRest(int state) throws IllegalStateException, IndexOutOfBoundsException {
        requireExploration();
        requireState(state);
        return model.isSteady(graph.keys[state]);
    }

    public int endCount() throws IllegalStateException {
        requireExploration();
        int ends = 0;
        for (int state = 0; state < graph.count; state++) {
            if (graph.linkCount(state) == 0) {
                ends++;
            }
        }
        return ends;
    }

    public int soonest(int variable, int value)
            throws IllegalStateException, IndexOutOfBoundsException, IllegalArgumentException {
        requireExploration();
        requireVariable(variable);
        requireValue(variable, value);
        // Distances never fall as numbers rise, so the first state found is one of the nearest.
        for (int state = 0; state < graph.count; state++) {
            if (valueOf(model.codeIn(graph.keys[state], variable)) == value) {
                return graph.distances[state];
            }
        }
        return -1;
    }

    public boolean hasCycle() throws IllegalStateException {
        requireExploration();
        return graph.goesRound();
    }

    public long ways(int steps) throws IllegalStateException, IllegalArgumentException {
        requireExploration();
        if (steps < 0 || steps > MOST_STEPS) {
            throw new IllegalArgumentException("steps go from 0 to 100");
        }
        return graph.countWays(steps);
    }

    public double rest() throws IllegalStateException {
        requireExploration();
        if (graph.count <= 0) {
            return 0.0;
        }
        int resting = 0;
        for (int state = 0; state < graph.count; state++) {
            if (model.isSteady(graph.keys[state])) {
                resting++;
            }
        }
        return (double) resting / (double) graph.count;
    }

    public long digest() {
        long d = 131;
        d = d * 31 + model.variables;
        for (int v = 0; v < model.variables; v++) {
            d = d * 31 + model.landmarks[v];
            d = d * 31 + model.zeros[v];
            d = d * 31 + model.givenValues[v];
            d = d * 31 + model.givenDirections[v];
        }
        d = d * 31 + model.constraints;
        for (int c = 0; c < model.constraints; c++) {
            d = d * 31 + model.kinds[c];
        }
        return explored ? digestStates(d) : d;
    }

    private long digestStates(long before) {
        long d = before * 31 + graph.count;
        for (int state = 0; state < graph.count; state++) {
            for (int v = 0; v < model.variables; v++) {
                int code = model.codeIn(graph.keys[state], v);
                d = d * 31 + valueOf(code);
                d = d * 31 + directionOf(code);
            }
            d = d * 31 + graph.linkCount(state);
        }
        return d;
    }

    private void requireExploration() {
        if (!explored) {
            throw new IllegalStateException("there is no exploration");
        }
    }

    private void requireState(int state) {
        if (state < 0 || state >= graph.count) {
            throw new IndexOutOfBoundsException("there is no such state");
        }
    }

    private void requireVariable(int variable) {
        if (variable < 0 || variable >= model.variables) {
            throw new IndexOutOfBoundsException("there is no such variable");
        }
    }

    private void requireValue(int variable, int value) {
        if (value < 0 || value > model.greatestValue(variable)) {
            throw new IllegalArgumentException("the variable has no such value");
        }
    }

    private static int codeOf(int value, int direction) {
        return 3 * value + direction + 1;
    }

    private static int valueOf(int code) {
        return code / 3;
    }

    private static int directionOf(int code) {
        return code % 3 - 1;
    }

    /** The variables with what is given for the start, and the constraints. */
    private static final class Model {
        int variables = 0;
        final int[] landmarks = new int[MOST_VARIABLES];
        final int[] zeros = new int[MOST_VARIABLES];
        final int[] givenValues = new int[MOST_VARIABLES];
        final int[] givenDirections = new int[MOST_VARIABLES];

        /** The codes below, at and above the zero of each variable. */
        final int[] below = new int[MOST_VARIABLES];
        final int[] within = new int[MOST_VARIABLES];
        final int[] above = new int[MOST_VARIABLES];

        int constraints = 0;
        final int[] kinds = new int[MOST_CONSTRAINTS];
        final int[] xs = new int[MOST_CONSTRAINTS];
        final int[] ys = new int[MOST_CONSTRAINTS];
        final int[] zs = new int[MOST_CONSTRAINTS];

        int appendVariable(int landmarkCount, int zero) {
            int v = variables;
            landmarks[v] = landmarkCount;
            zeros[v] = zero;
            givenValues[v] = OPEN_VALUE;
            givenDirections[v] = OPEN_DIRECTION;
            int all = (1 << codeOf(greatestValue(v), 2)) - 1;
            below[v] = (1 << codeOf(2 * zero, -1)) - 1;
            within[v] = ANY << codeOf(2 * zero, -1);
            above[v] = all & ~below[v] & ~within[v];
            variables++;
            return v;
        }

        int appendConstraint(int kind, int x, int y, int z) {
            int c = constraints;
            kinds[c] = kind;
            xs[c] = x;
            ys[c] = y;
            zs[c] = z;
            constraints++;
            return c;
        }

        boolean replaceGiven(int v, int newValue, int newDirection) {
            boolean changes = givenValues[v] != newValue || givenDirections[v] != newDirection;
            givenValues[v] = newValue;
            givenDirections[v] = newDirection;
            return changes;
        }

        int greatestValue(int v) {
            return 2 * landmarks[v] - 2;
        }

        boolean concerns(int c, int v) {
            return xs[c] == v || ys[c] == v || zs[c] == v;
        }

        /** The code of a variable in a key: the codes of all variables, variable 0 foremost. */
        int codeIn(int key, int v) {
            return key >> CODE_BITS * (variables - 1 - v) & CODE_MASK;
        }

        boolean isSteady(int key) {
            for (int v = 0; v < variables; v++) {
                if (directionOf(codeIn(key, v)) != 0) {
                    return false;
                }
            }
            return true;
        }

        int codesGiven(int v) {
            int codes = below[v] | within[v] | above[v];
            if (givenValues[v] != OPEN_VALUE) {
                codes &= ANY << codeOf(givenValues[v], -1);
            }
            if (givenDirections[v] != OPEN_DIRECTION) {
                codes &= EACH_VALUE << (givenDirections[v] + 1);
            }
            return codes;
        }

        int codesAfterInstant(int v, int code) {
            int value = valueOf(code);
            int direction = directionOf(code);
            if (value % 2 != 0) {
                return direction == 0 ? ANY << codeOf(value, -1) : 1 << code;
            }
            int codes = direction == 0 ? 1 << code : 0;
            if (direction >= 0 && value < greatestValue(v)) {
                codes |= 1 << codeOf(value + 1, 1);
            }
            if (direction <= 0 && value > 0) {
                codes |= 1 << codeOf(value - 1, -1);
            }
            return codes;
        }

        int codesAfterSpan(int code) {
            int value = valueOf(code);
            int direction = directionOf(code);
            if (direction == 0) {
                return 1 << code;
            }
            if (value % 2 == 0) {
                return 0;
            }
            int stays = 1 << code | 1 << codeOf(value, 0);
            int arrives = 1 << codeOf(value + direction, direction)
                    | 1 << codeOf(value + direction, 0);
            return stays | arrives;
        }

        int signsAmong(int codes, int v) {
            return ((codes & below[v]) != 0 ? NEGATIVE : 0)
                    | ((codes & within[v]) != 0 ? NOUGHT : 0)
                    | ((codes & above[v]) != 0 ? POSITIVE : 0);
        }

        int codesWithSigns(int signs, int v) {
            return ((signs & NEGATIVE) != 0 ? below[v] : 0)
                    | ((signs & NOUGHT) != 0 ? within[v] : 0)
                    | ((signs & POSITIVE) != 0 ? above[v] : 0);
        }
    }

    /**
     * Finds the states. Each variable has a set of codes that are still possible for it; the
     * variables are bound one after the other, each to its codes in ascending order, and after
     * each step the constraints take codes away. A constraint never takes away a code that is in
     * an allowed state, and of variables that have one code each it leaves nothing if it does not
     * allow them: so what is left at the end is allowed, and nothing is missed.
     */
    private static final class Search {
        private final Model model;
        private final Graph graph;

        /** A row of sets for each number of bound variables, so that nothing has to be undone. */
        private final int[] possible = new int[(MOST_VARIABLES + 1) * MOST_VARIABLES];

        /** The state that is followed; -1 is the start, which the first states follow. */
        private int source = -1;

        Search(Model model, Graph graph) {
            this.model = model;
            this.graph = graph;
        }

        void exploreAll() {
            graph.clear();
            for (int state = -1; state < graph.count && graph.complete; state++) {
                source = state;
                setToFollowing(state);
                if (narrowUntilStable()) {
                    bindFrom(0, 0);
                }
                if (state < 0) {
                    graph.firsts = graph.count;
                }
            }
            linkAll();
        }

        /** Before any constraint: what can follow a state, or the start (-1). */
        private void setToFollowing(int state) {
            for (int v = 0; v < model.variables; v++) {
                if (state < 0) {
                    possible[v] = model.codesGiven(v);
                } else if (graph.instants[state]) {
                    possible[v] = model.codesAfterInstant(v, model.codeIn(graph.keys[state], v));
                } else {
                    possible[v] = model.codesAfterSpan(model.codeIn(graph.keys[state], v));
                }
            }
        }

        /** Without this, a contradiction among the last variables is met again and again. */
        private boolean narrowUntilStable() {
            for (int pass = 0; pass < MOST_VARIABLES * CODES; pass++) {
                int before = codesLeft();
                for (int c = 0; c < model.constraints; c++) {
                    if (!narrow(c, 0)) {
                        return false;
                    }
                }
                if (codesLeft() == before) {
                    return true;
                }
            }
            return true;
        }

        private int codesLeft() {
            int left = 0;
            for (int v = 0; v < model.variables; v++) {
                left += Integer.bitCount(possible[v]);
            }
            return left;
        }

        private void bindFrom(int bound, int key) {
            if (bound >= model.variables) {
                graph.meet(key, source);
                return;
            }
            int codes = possible[bound * MOST_VARIABLES + bound];
            for (int code = 0; code < CODES && graph.complete; code++) {
                if ((codes >> code & 1) != 0 && bind(bound, code)) {
                    bindFrom(bound + 1, key << CODE_BITS | code);
                }
            }
        }

        private boolean bind(int v, int code) {
            int row = v * MOST_VARIABLES;
            int next = row + MOST_VARIABLES;
            for (int other = 0; other < model.variables; other++) {
                possible[next + other] = possible[row + other];
            }
            possible[next + v] = 1 << code;
            for (int c = 0; c < model.constraints; c++) {
                if (model.concerns(c, v) && !narrow(c, next)) {
                    return false;
                }
            }
            return true;
        }

        /** Returns whether each variable of the constraint still has a code. */
        private boolean narrow(int c, int row) {
            int x = model.xs[c];
            int y = model.ys[c];
            switch (model.kinds[c]) {
                case EQUAL:
                    narrowToSame(x, y, row);
                    break;
                case OPPOSITE:
                    narrowToMirrored(x, y, row);
                    break;
                case RATE:
                    narrowToRate(x, y, row);
                    break;
                case SUM:
                    narrowToSum(x, y, model.zs[c], row);
                    break;
                case CONSTANT:
                    keep(x, row, ANY, NOUGHT);
                    break;
                default:
                    narrowToMatch(x, y, row);
                    break;
            }
            return possible[row + x] != 0 && possible[row + y] != 0
                    && possible[row + model.zs[c]] != 0;
        }

        private void narrowToSame(int x, int y, int row) {
            int signs = signsOf(x, row) & signsOf(y, row);
            int directions = directionsOf(x, row) & directionsOf(y, row);
            keep(x, row, signs, directions);
            keep(y, row, signs, directions);
        }

        private void narrowToMirrored(int x, int y, int row) {
            int signs = signsOf(x, row) & mirrored(signsOf(y, row));
            int directions = directionsOf(x, row) & mirrored(directionsOf(y, row));
            keep(x, row, signs, directions);
            keep(y, row, mirrored(signs), mirrored(directions));
        }

        private void narrowToRate(int x, int y, int row) {
            int both = directionsOf(x, row) & signsOf(y, row);
            keep(x, row, ANY, both);
            keep(y, row, both, ANY);
        }

        private void narrowToSum(int x, int y, int z, int row) {
            int sx = signsOf(x, row);
            int sy = signsOf(y, row);
            int sz = signsOf(z, row);
            int dx = directionsOf(x, row);
            int dy = directionsOf(y, row);
            int dz = directionsOf(z, row);
            keep(z, row, sums(sx, sy), sums(dx, dy));
            keep(x, row, sums(sz, mirrored(sy)), sums(dz, mirrored(dy)));
            keep(y, row, sums(sz, mirrored(sx)), sums(dz, mirrored(dx)));
        }

        private void narrowToMatch(int x, int y, int row) {
            int places = placesAmong(possible[row + x]) & placesAmong(possible[row + y]);
            possible[row + x] &= places;
            possible[row + y] &= places;
        }

        private void keep(int v, int row, int signs, int directions) {
            possible[row + v] &= model.codesWithSigns(signs, v) & EACH_VALUE * directions;
        }

        private int signsOf(int v, int row) {
            return model.signsAmong(possible[row + v], v);
        }

        private int directionsOf(int v, int row) {
            int codes = possible[row + v];
            return ((codes & EACH_VALUE * NEGATIVE) != 0 ? NEGATIVE : 0)
                    | ((codes & EACH_VALUE * NOUGHT) != 0 ? NOUGHT : 0)
                    | ((codes & EACH_VALUE * POSITIVE) != 0 ? POSITIVE : 0);
        }

        private static int placesAmong(int codes) {
            return ((codes & AT_LANDMARKS) != 0 ? AT_LANDMARKS : 0)
                    | ((codes & BETWEEN_LANDMARKS) != 0 ? BETWEEN_LANDMARKS : 0);
        }

        private static int mirrored(int digit) {
            return digit >> 2 & NEGATIVE | digit & NOUGHT | digit << 2 & POSITIVE;
        }

        /** A side that one number has can always win, and 0 needs two that can cancel out. */
        private static int sums(int a, int b) {
            int sides = (a | b) & (NEGATIVE | POSITIVE);
            return (a & mirrored(b)) != 0 ? sides | NOUGHT : sides;
        }

        private void linkAll() {
            for (int state = 0; state < graph.count; state++) {
                setToFollowing(state);
                graph.beginLinks(state);
                for (int other = 0; other < graph.count; other++) {
                    if (canFollow(state, other)) {
                        graph.link(other);
                    }
                }
            }
            graph.endLinks();
        }

        /** Every numbered state is allowed, so the changes of the variables alone decide. */
        private boolean canFollow(int state, int other) {
            if (graph.instants[state] == graph.instants[other]) {
                return false;
            }
            int key = graph.keys[other];
            if (graph.instants[other] && graph.keys[state] == key) {
                return false;
            }
            for (int v = 0; v < model.variables; v++) {
                if ((possible[v] >> model.codeIn(key, v) & 1) == 0) {
                    return false;
                }
            }
            return true;
        }
    }

    /** The numbered states and the links from each to its successors. */
    private static final class Graph {
        /** A power of two, and twice the states at least, so that searches in it stay short. */
        private static final int SLOTS = 512;

        private static final int SLOT_SHIFT = 23;
        private static final int SCATTER = 0x9E3779B1;
        private static final int LINKS_AT_FIRST = 1024;

        int count = 0;
        int firsts = 0;
        boolean complete = true;
        final int[] keys = new int[MOST_STATES];
        final boolean[] instants = new boolean[MOST_STATES];
        final int[] distances = new int[MOST_STATES];

        /** A scattered index of the states: 1 more than the number, 0 in a free slot. */
        private final int[] slots = new int[SLOTS];

        /** The links of a state stand from its start to the start of the next one. */
        final int[] starts = new int[MOST_STATES + 1];

        int[] links = new int[LINKS_AT_FIRST];
        private int linksInAll = 0;

        private final long[] waysNow = new long[MOST_STATES];
        private final long[] waysBefore = new long[MOST_STATES];
        private final boolean[] runsOut = new boolean[MOST_STATES];

        void clear() {
            count = 0;
            firsts = 0;
            complete = true;
            linksInAll = 0;
            Arrays.fill(slots, 0);
        }

        /** Numbers the state that was met after the source (-1 for none), if it is a new one. */
        void meet(int key, int source) {
            boolean instant = source < 0 || !instants[source];
            if (instant && source >= 0 && keys[source] == key) {
                return;
            }
            int slot = (key + key + (instant ? 1 : 0)) * SCATTER >>> SLOT_SHIFT;
            for (int probe = 0; probe < SLOTS; probe++) {
                int state = slots[slot] - 1;
                if (state < 0) {
                    append(key, instant, source, slot);
                    return;
                }
                if (keys[state] == key && instants[state] == instant) {
                    return;
                }
                slot = slot + 1 & SLOTS - 1;
            }
        }

        private void append(int key, boolean instant, int source, int slot) {
            if (count >= MOST_STATES) {
                complete = false;
                return;
            }
            keys[count] = key;
            instants[count] = instant;
            distances[count] = source < 0 ? 0 : distances[source] + 1;
            count++;
            slots[slot] = count;
        }

        void beginLinks(int state) {
            starts[state] = linksInAll;
            // Grown rows are kept for later explorations, so few are ever made.
            if (links.length - linksInAll < MOST_STATES) {
                links = Arrays.copyOf(links, 2 * links.length);
            }
        }

        void link(int state) {
            links[linksInAll] = state;
            linksInAll++;
        }

        void endLinks() {
            starts[count] = linksInAll;
        }

        int linkCount(int state) {
            return starts[state + 1] - starts[state];
        }

        /** Clears away, again and again, the states from which every way runs out. */
        boolean goesRound() {
            for (int state = 0; state < count; state++) {
                runsOut[state] = false;
            }
            int left = count;
            for (int pass = 0; pass < count && left > 0; pass++) {
                int before = left;
                for (int state = count - 1; state >= 0; state--) {
                    if (!runsOut[state] && everyLinkRunsOut(state)) {
                        runsOut[state] = true;
                        left--;
                    }
                }
                if (left == before) {
                    return true;
                }
            }
            return false;
        }

        private boolean everyLinkRunsOut(int state) {
            for (int at = starts[state]; at < starts[state + 1]; at++) {
                if (!runsOut[links[at]]) {
                    return false;
                }
            }
            return true;
        }

        long countWays(int steps) {
            Arrays.fill(waysNow, 1);
            for (int step = 0; step < steps; step++) {
                System.arraycopy(waysNow, 0, waysBefore, 0, count);
                for (int state = 0; state < count; state++) {
                    long sum = 0;
                    for (int at = starts[state]; at < starts[state + 1]; at++) {
                        sum += waysBefore[links[at]];
                    }
                    waysNow[state] = sum;
                }
            }
            long all = 0;
            for (int state = 0; state < firsts; state++) {
                all += waysNow[state];
            }
            return all;
        }
    }
}
