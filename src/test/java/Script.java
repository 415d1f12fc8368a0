import java.lang.reflect.Constructor;
import java.lang.reflect.Method;
import java.util.HashMap;
import java.util.Map;

/**
 * Cases written as text, each run on a new object of StepWorks and on a new NaiveModel too, so that
 * an answer found by hand is held against both. Lines are parted by ';':
 *
 * <pre>
 * put(0, 1, 6) = 0     a call and the answer that is due (no answer: a call that only prepares)
 * row 1 2 -3 = 12      an equation more, with these coefficients and this right side
 * row 0 is 1 2 -3      the coefficients of an equation
 * cells 2 are 5 6 7    elements from 0 on of a tray are set
 * hand 1 2 3           the hand's numbers are set
 * hand is 1 2 3        all of the hand's numbers
 * step 4 is 1 2 3      the numbers of a least step, and no more of them
 * plan 4 is 1 2 3      the numbers of a plan, and no more of them
 * refused 0 0 1        how many refusals of -1, -2, .. there were; none of those left out
 * </pre>
 *
 * NONE, MIN, MAX (of int), LMIN, LMAX (of long) stand for numbers.
 */
final class Script {
    private static final int MOST_CALLS = 512;

    private final String suite;
    private final Map<String, Integer> seen = new HashMap<>();
    private int wrong;
    private Object target;
    private int calls;
    private String title;

    Script(String suite) {
        this.suite = suite;
    }

    /** One sentence of a promise that names a boundary case. */
    void test(int promise, String sentence, String... lines) {
        String name = "promise " + promise + ", " + sentence;
        if (seen.merge(name, 1, Integer::sum) > 1) {
            tell("two tests bear this name", name);
        }
        on(StepWorks.class, name, lines);
        on(NaiveModel.class, name + " (the model)", lines);
    }

    /** What no calls tell of. */
    void mustHold(String what, boolean holds) {
        seen.merge(what, 1, Integer::sum);
        if (!holds) {
            tell("does not hold", what);
        }
    }

    void end() {
        System.out.println(suite + ": " + seen.size() + " cases, "
            + (wrong == 0 ? "all answers are as due" : wrong + " wrong"));
        System.exit(wrong == 0 ? 0 : 1);
    }

    private void tell(String what, String where) {
        wrong++;
        System.out.println(where + ": " + what);
    }

    private void on(Class<?> type, String name, String[] lines) {
        title = name;
        calls = 0;
        try {
            Constructor<?> constructor = type.getDeclaredConstructor();
            target = constructor.newInstance();
            for (String line : lines) {
                for (String one : line.split(";")) {
                    run(one.trim());
                }
            }
        } catch (ReflectiveOperationException | RuntimeException e) {
            tell(e + (e.getCause() == null ? "" : " of " + e.getCause()), name);
        }
        if (calls > MOST_CALLS) {
            tell("more than " + MOST_CALLS + " calls", name);
        }
    }

    private void run(String line) throws ReflectiveOperationException {
        String[] words = line.split("\\s+");
        if (line.isEmpty()) {
            return;
        }
        if (line.contains("(")) {
            runCall(line);
        } else if (line.startsWith("hand is ")) {
            numbersAre("has", -1, words, 2);
        } else if (line.startsWith("hand ")) {
            for (int u = 0; u < words.length - 1; u++) {
                call("hand", u, number(words[u + 1]));
            }
        } else if (line.startsWith("step ") || line.startsWith("plan ")) {
            numbersAre(words[0], number(words[1]), words, 3);
        } else if (line.startsWith("refused")) {
            for (int k = 1; k <= 7; k++) {
                due("count", k < words.length ? number(words[k]) : 0, 10L + k);
            }
        } else if (line.startsWith("cells ")) {
            for (int i = 0; i < words.length - 3; i++) {
                due("cell", 1, number(words[1]), i, number(words[i + 3]));
            }
        } else {
            runRow(line, words);
        }
    }

    private void runCall(String line) throws ReflectiveOperationException {
        int open = line.indexOf('(');
        int close = line.indexOf(')');
        String inside = line.substring(open + 1, close).trim();
        String[] parts = inside.isEmpty() ? new String[0] : inside.split(",");
        long[] numbers = new long[parts.length];
        for (int k = 0; k < parts.length; k++) {
            numbers[k] = number(parts[k].trim());
        }
        String name = line.substring(0, open);
        String rest = line.substring(close + 1).trim();
        if (rest.isEmpty()) {
            call(name, numbers);
        } else if (rest.startsWith("= ")) {
            due(name, number(rest.substring(2).trim()), numbers);
        } else {
            throw new IllegalArgumentException(line);
        }
    }

    private void runRow(String line, String[] words) throws ReflectiveOperationException {
        if (!words[0].equals("row")) {
            throw new IllegalArgumentException(line);
        }
        if (words.length > 3 && words[2].equals("is")) {
            for (int u = 0; u < words.length - 3; u++) {
                due("put", number(words[u + 3]), number(words[1]), u, number(words[u + 3]));
            }
            return;
        }
        long e = call("equation");
        int u = 0;
        while (u < words.length - 1 && !words[u + 1].equals("=")) {
            due("put", 0, e, u, number(words[u + 1]));
            u++;
        }
        due("count", u, 0);
        if (u < words.length - 1) {
            due("right", 0, e, number(words[u + 2]));
        }
    }

    /** All numbers of a vector, which has as many as there are unknowns. */
    private void numbersAre(String name, long i, String[] words, int from) throws ReflectiveOperationException {
        int n = words.length - from;
        for (int u = 0; u <= n; u++) {
            long want = u < n ? number(words[from + u]) : StepWorks.NONE;
            if (i < 0) {
                due(name, want, u);
            } else {
                due(name, want, i, u);
            }
        }
    }

    private void due(String name, long want, long... numbers) throws ReflectiveOperationException {
        long got = call(name, numbers);
        if (got != want) {
            StringBuilder text = new StringBuilder();
            for (long number : numbers) {
                text.append(text.length() == 0 ? "" : ", ").append(number);
            }
            tell(name + "(" + text + ") answered " + got + ", due is " + want, title);
        }
    }

    private long call(String name, long... numbers) throws ReflectiveOperationException {
        calls++;
        for (Method m : target.getClass().getDeclaredMethods()) {
            Class<?>[] types = m.getParameterTypes();
            if (m.getName().equals(name) && types.length == numbers.length && !m.getReturnType().isArray()
                    && onlyNumbers(types)) {
                Object[] given = new Object[types.length];
                for (int k = 0; k < types.length; k++) {
                    if (types[k] == long.class) {
                        given[k] = numbers[k];
                    } else {
                        given[k] = Math.toIntExact(numbers[k]);
                    }
                }
                return ((Number) m.invoke(target, given)).longValue();
            }
        }
        throw new NoSuchMethodException(name);
    }

    private static boolean onlyNumbers(Class<?>[] types) {
        for (Class<?> type : types) {
            if (type != int.class && type != long.class) {
                return false;
            }
        }
        return true;
    }

    private static long number(String word) {
        switch (word) {
            case "NONE": return StepWorks.NONE;
            case "MIN": return Integer.MIN_VALUE;
            case "MAX": return Integer.MAX_VALUE;
            case "LMIN": return Long.MIN_VALUE;
            case "LMAX": return Long.MAX_VALUE;
            default: return Long.parseLong(word);
        }
    }
}
