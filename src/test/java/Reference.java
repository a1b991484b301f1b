import java.util.ArrayList;
import java.util.Arrays;
import java.util.LinkedHashMap;
import java.util.List;
import java.util.Map;

/**
 * The document once more, word by word and with no regard to cost: it tries every state and looks
 * at whole states alone. It shares no code and no idea with the class that is tested.
 */
final class Reference {
    private final List<int[]> variables = new ArrayList<>();
    private final List<int[]> given = new ArrayList<>();
    private final List<int[]> constraints = new ArrayList<>();
    private final int mostStates;
    private Map<String, State> found = null;
    private List<State> states = null;
    private boolean complete;
    private int firsts;

    private static final class State {
        final int[] values;
        final int[] directions;
        final boolean instant;
        int number;
        int distance;
        final List<Integer> next = new ArrayList<>();

        State(int[] values, int[] directions, boolean instant) {
            this.values = values;
            this.directions = directions;
            this.instant = instant;
        }

        String name() {
            return instant + Arrays.toString(values) + Arrays.toString(directions);
        }
    }

    Reference() {
        this(250);
    }

    /** With another limit it tells how many states a model has that goes beyond 250. */
    Reference(int mostStates) {
        this.mostStates = mostStates;
    }

    int addVariable(int landmarks, int zero) {
        if (landmarks < 2 || landmarks > 4 || zero < 0 || zero > landmarks - 1) {
            throw new IllegalArgumentException();
        }
        if (variables.size() == 4) {
            throw new IllegalStateException();
        }
        forget();
        variables.add(new int[] {landmarks, zero});
        given.add(new int[] {-1, 2});
        return variables.size() - 1;
    }

    int addConstraint(int kind, int x, int y, int z) {
        if (kind < 0 || kind > 5) {
            throw new IllegalArgumentException();
        }
        lookForVariable(x);
        if (kind != 4) {
            lookForVariable(y);
        }
        if (kind == 3) {
            lookForVariable(z);
        }
        if (constraints.size() == 8) {
            throw new IllegalStateException();
        }
        forget();
        constraints.add(new int[] {kind, x, y, z});
        return constraints.size() - 1;
    }

    int dropConstraint() {
        if (constraints.isEmpty()) {
            throw new IllegalStateException();
        }
        forget();
        constraints.remove(constraints.size() - 1);
        return constraints.size();
    }

    boolean give(int variable, int value, int direction) {
        lookForVariable(variable);
        if (value != -1) {
            lookForValue(variable, value);
        }
        if (direction < -1 || direction > 2) {
            throw new IllegalArgumentException();
        }
        forget();
        int[] now = {value, direction};
        boolean other = !Arrays.equals(now, given.get(variable));
        given.set(variable, now);
        return other;
    }

    int open() {
        int count = 0;
        for (int v = 0; v < variables.size(); v++) {
            if (give(v, -1, 2)) {
                count++;
            }
        }
        forget();
        return count;
    }

    int variableCount() {
        return variables.size();
    }

    int sign(int variable, int value) {
        lookForVariable(variable);
        lookForValue(variable, value);
        return signOf(variable, value);
    }

    int explore() {
        if (states == null) {
            exploreAnew();
        }
        return states.size();
    }

    boolean isExplored() {
        return states != null;
    }

    boolean isComplete() {
        lookForExploration();
        return complete;
    }

    int firstCount() {
        lookForExploration();
        return firsts;
    }

    int value(int state, int variable) {
        State s = stateAt(state);
        lookForVariable(variable);
        return s.values[variable];
    }

    int direction(int state, int variable) {
        State s = stateAt(state);
        lookForVariable(variable);
        return s.directions[variable];
    }

    boolean isInstant(int state) {
        return stateAt(state).instant;
    }

    int successorCount(int state) {
        return stateAt(state).next.size();
    }

    int successor(int state, int index) {
        State s = stateAt(state);
        if (index < 0 || index >= s.next.size()) {
            throw new IndexOutOfBoundsException();
        }
        return s.next.get(index);
    }

    int distance(int state) {
        return stateAt(state).distance;
    }

    boolean isAtRest(int state) {
        for (int d : stateAt(state).directions) {
            if (d != 0) {
                return false;
            }
        }
        return true;
    }

    int endCount() {
        lookForExploration();
        int ends = 0;
        for (State s : states) {
            if (s.next.isEmpty()) {
                ends++;
            }
        }
        return ends;
    }

    int soonest(int variable, int value) {
        lookForExploration();
        lookForVariable(variable);
        lookForValue(variable, value);
        int least = -1;
        for (State s : states) {
            if (s.values[variable] == value && (least < 0 || s.distance < least)) {
                least = s.distance;
            }
        }
        return least;
    }

    boolean hasCycle() {
        lookForExploration();
        for (State start : states) {
            boolean[] seen = new boolean[states.size()];
            List<Integer> toSee = new ArrayList<>(start.next);
            while (!toSee.isEmpty()) {
                int n = toSee.remove(toSee.size() - 1);
                if (n == start.number) {
                    return true;
                }
                if (!seen[n]) {
                    seen[n] = true;
                    toSee.addAll(states.get(n).next);
                }
            }
        }
        return false;
    }

    long ways(int steps) {
        lookForExploration();
        if (steps < 0 || steps > 100) {
            throw new IllegalArgumentException();
        }
        long[] ending = new long[states.size()];
        for (int i = 0; i < firsts; i++) {
            ending[i] = 1;
        }
        for (int step = 0; step < steps; step++) {
            long[] longer = new long[states.size()];
            for (State s : states) {
                for (int n : s.next) {
                    longer[n] += ending[s.number];
                }
            }
            ending = longer;
        }
        long all = 0;
        for (long one : ending) {
            all += one;
        }
        return all;
    }

    double rest() {
        lookForExploration();
        double resting = 0;
        for (State s : states) {
            if (isAtRest(s.number)) {
                resting++;
            }
        }
        return states.isEmpty() ? 0 : resting / states.size();
    }

    long digest() {
        List<Integer> numbers = new ArrayList<>();
        numbers.add(variables.size());
        for (int v = 0; v < variables.size(); v++) {
            numbers.addAll(List.of(variables.get(v)[0], variables.get(v)[1], given.get(v)[0],
                    given.get(v)[1]));
        }
        numbers.add(constraints.size());
        for (int[] c : constraints) {
            numbers.add(c[0]);
        }
        if (states != null) {
            numbers.add(states.size());
            for (State s : states) {
                for (int v = 0; v < variables.size(); v++) {
                    numbers.add(s.values[v]);
                    numbers.add(s.directions[v]);
                }
                numbers.add(s.next.size());
            }
        }
        long d = 131;
        for (int x : numbers) {
            d = d * 31 + x;
        }
        return d;
    }

    private void forget() {
        states = null;
        found = null;
    }

    private void lookForVariable(int v) {
        if (v < 0 || v >= variables.size()) {
            throw new IndexOutOfBoundsException();
        }
    }

    private void lookForValue(int v, int value) {
        if (value < 0 || value > 2 * variables.get(v)[0] - 2) {
            throw new IllegalArgumentException();
        }
    }

    private void lookForExploration() {
        if (states == null) {
            throw new IllegalStateException();
        }
    }

    private State stateAt(int state) {
        lookForExploration();
        if (state < 0 || state >= states.size()) {
            throw new IndexOutOfBoundsException();
        }
        return states.get(state);
    }

    private int signOf(int v, int value) {
        int zero = 2 * variables.get(v)[1];
        return value < zero ? -1 : value > zero ? 1 : 0;
    }

    private void exploreAnew() {
        states = new ArrayList<>();
        found = new LinkedHashMap<>();
        complete = true;
        boolean going = true;
        for (State s : allowedAmong(startChoices(), true, mostStates + 1)) {
            going = going && number(s, 0);
        }
        firsts = states.size();
        for (int i = 0; i < states.size() && going; i++) {
            for (State s : successorsOf(states.get(i))) {
                if (!found.containsKey(s.name())) {
                    going = number(s, states.get(i).distance + 1);
                    if (!going) {
                        break;
                    }
                }
            }
        }
        complete = going;
        // Where no span has a number, none counts; trying them all would take long.
        if (states.size() > firsts || complete) {
            linkNumbered();
        }
    }

    private void linkNumbered() {
        for (State s : states) {
            for (State t : successorsOf(s)) {
                State numbered = found.get(t.name());
                if (numbered != null) {
                    s.next.add(numbered.number);
                }
            }
            s.next.sort(null);
        }
    }

    private boolean number(State s, int distance) {
        if (states.size() == mostStates) {
            return false;
        }
        s.number = states.size();
        s.distance = distance;
        states.add(s);
        found.put(s.name(), s);
        return true;
    }

    private List<List<int[]>> startChoices() {
        List<List<int[]>> choices = new ArrayList<>();
        for (int v = 0; v < variables.size(); v++) {
            List<int[]> mine = new ArrayList<>();
            for (int[] one : everyChoice(v)) {
                boolean valueFits = given.get(v)[0] == -1 || given.get(v)[0] == one[0];
                boolean directionFits = given.get(v)[1] == 2 || given.get(v)[1] == one[1];
                if (valueFits && directionFits) {
                    mine.add(one);
                }
            }
            choices.add(mine);
        }
        return choices;
    }

    private List<int[]> everyChoice(int v) {
        List<int[]> all = new ArrayList<>();
        for (int value = 0; value <= 2 * variables.get(v)[0] - 2; value++) {
            for (int direction = -1; direction <= 1; direction++) {
                all.add(new int[] {value, direction});
            }
        }
        return all;
    }

    private List<State> successorsOf(State s) {
        List<List<int[]>> choices = new ArrayList<>();
        for (int v = 0; v < variables.size(); v++) {
            List<int[]> mine = new ArrayList<>();
            for (int[] to : everyChoice(v)) {
                int[] from = {s.values[v], s.directions[v]};
                if (s.instant ? intoSpan(from, to) : intoInstant(from, to)) {
                    mine.add(to);
                }
            }
            choices.add(mine);
        }
        List<State> next = allowedAmong(choices, !s.instant, Integer.MAX_VALUE);
        if (!s.instant) {
            next.removeIf(t -> Arrays.equals(t.values, s.values)
                    && Arrays.equals(t.directions, s.directions));
        }
        return next;
    }

    /** Every value that is asked for is one of the variable, so steps off its ends never fit. */
    private static boolean intoSpan(int[] from, int[] to) {
        boolean stays = to[0] == from[0] && to[1] == from[1];
        boolean rises = to[0] == from[0] + 1 && to[1] == 1;
        boolean falls = to[0] == from[0] - 1 && to[1] == -1;
        if (from[0] % 2 == 0) {
            return from[1] == 0 ? stays || rises || falls : from[1] == 1 ? rises : falls;
        }
        return from[1] == 0 ? to[0] == from[0] : stays;
    }

    private static boolean intoInstant(int[] from, int[] to) {
        if (from[1] == 0) {
            return to[0] == from[0] && to[1] == 0;
        }
        if (from[0] % 2 == 0) {
            return false;
        }
        boolean place = to[0] == from[0] || to[0] == from[0] + from[1];
        return place && (to[1] == from[1] || to[1] == 0);
    }

    private List<State> allowedAmong(List<List<int[]>> choices, boolean instant, int most) {
        List<State> list = new ArrayList<>();
        int n = choices.size();
        for (List<int[]> mine : choices) {
            if (mine.isEmpty()) {
                return list;
            }
        }
        int[] at = new int[n];
        while (list.size() < most) {
            int[] values = new int[n];
            int[] directions = new int[n];
            for (int v = 0; v < n; v++) {
                values[v] = choices.get(v).get(at[v])[0];
                directions[v] = choices.get(v).get(at[v])[1];
            }
            if (isAllowed(values, directions)) {
                list.add(new State(values, directions, instant));
            }
            int v = n - 1;
            while (v >= 0 && at[v] == choices.get(v).size() - 1) {
                at[v] = 0;
                v--;
            }
            if (v < 0) {
                break;
            }
            at[v]++;
        }
        return list;
    }

    private boolean isAllowed(int[] values, int[] directions) {
        for (int[] c : constraints) {
            if (!allows(c, values, directions)) {
                return false;
            }
        }
        return true;
    }

    private boolean allows(int[] c, int[] values, int[] directions) {
        int x = c[1];
        int y = c[2];
        int z = c[3];
        switch (c[0]) {
            case 0:
                return directions[x] == directions[y]
                        && signOf(x, values[x]) == signOf(y, values[y]);
            case 1:
                return directions[y] == -directions[x]
                        && signOf(y, values[y]) == -signOf(x, values[x]);
            case 2:
                return directions[x] == signOf(y, values[y]);
            case 3:
                return canAdd(signOf(x, values[x]), signOf(y, values[y]), signOf(z, values[z]))
                        && canAdd(directions[x], directions[y], directions[z]);
            case 4:
                return directions[x] == 0;
            default:
                return values[x] % 2 == values[y] % 2;
        }
    }

    private static boolean canAdd(int a, int b, int sum) {
        return a * b == -1 || sum == (a + b > 0 ? 1 : a + b < 0 ? -1 : 0);
    }
}
