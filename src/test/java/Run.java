import java.lang.reflect.InvocationTargetException;
import java.lang.reflect.Method;
import java.util.Arrays;
import java.util.HashMap;
import java.util.List;
import java.util.Map;

/**
 * An object under calls that are written as text, "addConstraint(SUM, 0, 1, 2)", with answers that
 * are text too: a number, true or false, or throws.IllegalStateException and its like. A number can
 * be written by its name: a kind of constraint, LEAST and GREATEST for those of the ints.
 */
final class Run {
    static final String ARGUMENT = "throws.IllegalArgumentException";
    static final String INDEX = "throws.IndexOutOfBoundsException";
    static final String STATE = "throws.IllegalStateException";

    private static final List<String> KINDS =
            List.of("EQUAL", "OPPOSITE", "RATE", "SUM", "CONSTANT", "MATCH");

    private final Object object;
    private final Map<String, Method> methods = new HashMap<>();

    private Run(Object object, String[] calls) {
        this.object = object;
        for (Method method : object.getClass().getDeclaredMethods()) {
            methods.put(method.getName(), method);
        }
        and(calls);
    }

    /** A new object after these calls. */
    static Run of(String... calls) {
        return new Run(new QualitativeSimulator(), calls);
    }

    /** The Reference after these calls, with a limit of its own for the states. */
    static Run ofReference(int mostStates, String... calls) {
        return new Run(new Reference(mostStates), calls);
    }

    /** These calls, none of which throws. */
    Run and(String... calls) {
        for (String call : calls) {
            String got = answer(call);
            Check.same(call + " throws (" + got + ")", got.startsWith("throws."), false);
        }
        return this;
    }

    Run due(String call, Object answer) {
        Check.same(call, answer(call), String.valueOf(answer));
        return this;
    }

    String answer(String call) {
        int open = call.indexOf('(');
        String inside = call.substring(open + 1, call.indexOf(')')).trim();
        String[] words = inside.isEmpty() ? new String[0] : inside.split(", *");
        int[] numbers = new int[words.length];
        for (int i = 0; i < words.length; i++) {
            numbers[i] = number(words[i]);
        }
        return ask(call.substring(0, open), numbers);
    }

    private static int number(String word) {
        if (word.equals("LEAST")) {
            return Integer.MIN_VALUE;
        }
        if (word.equals("GREATEST")) {
            return Integer.MAX_VALUE;
        }
        int kind = KINDS.indexOf(word);
        return kind >= 0 ? kind : Integer.parseInt(word);
    }

    String ask(String name, int... numbers) {
        Object[] boxed = Arrays.stream(numbers).boxed().toArray();
        try {
            return String.valueOf(methods.get(name).invoke(object, boxed));
        } catch (InvocationTargetException e) {
            return "throws." + e.getCause().getClass().getName().replace("java.lang.", "");
        } catch (IllegalAccessException e) {
            throw new AssertionError(e);
        }
    }

    int count(String name, int... numbers) {
        return Integer.parseInt(ask(name, numbers));
    }

    /** A state as i(0,1)(2,-1), an instant, or s(0,1)(2,-1), a span. */
    String state(int state) {
        StringBuilder told = new StringBuilder(ask("isInstant", state).equals("true") ? "i" : "s");
        int variables = count("variableCount");
        for (int v = 0; v < variables; v++) {
            told.append('(').append(ask("value", state, v)).append(',');
            told.append(ask("direction", state, v)).append(')');
        }
        return told.toString();
    }

    int numberOf(String state) {
        int states = count("explore");
        for (int i = 0; i < states; i++) {
            if (state(i).equals(state)) {
                return i;
            }
        }
        return -1;
    }

    String successors(int state) {
        StringBuilder told = new StringBuilder();
        int successors = count("successorCount", state);
        for (int i = 0; i < successors; i++) {
            told.append(i == 0 ? "" : " ").append(ask("successor", state, i));
        }
        return told.toString();
    }

    /** The successors of a state that is told as text, as text: "i(0,0) i(1,1)". */
    String successorsOf(String state) {
        int from = numberOf(state);
        StringBuilder told = new StringBuilder();
        int successors = from < 0 ? 0 : count("successorCount", from);
        for (int i = 0; i < successors; i++) {
            told.append(i == 0 ? "" : " ").append(state(count("successor", from, i)));
        }
        return from < 0 ? "no such state" : told.toString();
    }

    /** Every answer that the object has now, without a change of it. */
    String everything() {
        StringBuilder told = new StringBuilder();
        for (String name : List.of("variableCount", "isExplored", "digest")) {
            told.append(ask(name)).append(' ');
        }
        tellOfValues(told, "sign");
        if (ask("isExplored").equals("true")) {
            tellOfExploration(told);
        }
        return told.toString();
    }

    private void tellOfValues(StringBuilder told, String name) {
        for (int v = 0; v < 4; v++) {
            for (int value = 0; value <= 6; value++) {
                told.append(ask(name, v, value)).append(' ');
            }
        }
    }

    private void tellOfExploration(StringBuilder told) {
        for (String name : List.of("explore", "isComplete", "firstCount", "endCount", "hasCycle",
                "rest")) {
            told.append(ask(name)).append(' ');
        }
        for (int steps : new int[] {0, 1, 2, 3, 100}) {
            told.append(ask("ways", steps)).append(' ');
        }
        tellOfValues(told, "soonest");
        int states = count("explore");
        for (int i = 0; i < states; i++) {
            told.append('\n').append(state(i)).append(' ').append(ask("distance", i)).append(' ');
            told.append(ask("isAtRest", i)).append(": ").append(successors(i));
        }
    }
}
