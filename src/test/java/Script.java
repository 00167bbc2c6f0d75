import java.lang.reflect.InvocationTargetException;
import java.lang.reflect.Method;
import java.util.ArrayList;
import java.util.HashMap;
import java.util.List;
import java.util.Map;

/**
 * A run of calls on a new object, told in rows:
 *
 *   text hero 3               writes the letters
 *   told hero 3               writes them, and hall() must not be refused
 *   deed 0 1 = 12             a call, and the answer that is due; without '=' any answer will do
 *   person 0..2 6 = 0 1 NONE  a call for each number of a row, and as many answers
 *   8 x undo                  a call so many times; one answer is due each time, or as many as there are calls
 *
 * Numbers may be NONE, UNKNOWN, OUTSIDE, NOT, FULL, MIN, MAX.
 */
final class Script {
    /** What the object answers behind this many calls is free, so that no run may go further. */
    static final int MOST_CALLS = 512;
    private static final Map<String, Integer> NAMED = Map.of("NONE", -1, "UNKNOWN", -2, "OUTSIDE", -3, "NOT", -4,
        "FULL", -5, "MIN", Integer.MIN_VALUE, "MAX", Integer.MAX_VALUE);
    private static final Map<String, Method> CALLS = calls();

    private final CowardsPot pot = new CowardsPot();
    private final int mostCalls;
    private final List<String> wrongs = new ArrayList<>();
    private final List<Integer> answers = new ArrayList<>();
    private int checks = 0;
    private int made = 0;

    Script() {
        this(MOST_CALLS);
    }

    Script(int mostCalls) {
        this.mostCalls = mostCalls;
    }

    private static Map<String, Method> calls() {
        Map<String, Method> calls = new HashMap<>();
        for (Method method : CowardsPot.class.getDeclaredMethods()) {
            if (java.lang.reflect.Modifier.isPublic(method.getModifiers())) {
                calls.put(method.getName(), method);
            }
        }
        return calls;
    }

    Script run(String... rows) {
        for (String row : rows) {
            if (row.startsWith("text ")) {
                write(row.substring(5));
            } else if (row.startsWith("told ")) {
                write(row.substring(5));
                checks++;
                if (call("hall", new int[0]) < 0) {
                    wrongs.add(row + ": refused");
                }
            } else {
                callsOf(row);
            }
        }
        if (made > mostCalls) {
            wrongs.add(made + " calls on one object: the test itself is wrong");
        }
        return this;
    }

    int checks() {
        return checks;
    }

    List<String> wrongs() {
        return wrongs;
    }

    List<Integer> answers() {
        return answers;
    }

    private void write(String letters) {
        for (int i = 0; i < letters.length(); i++) {
            call("write", new int[] {letters.charAt(i)});
        }
    }

    private void callsOf(String row) {
        int equals = row.indexOf(" = ");
        String[] due = equals < 0 ? new String[0] : row.substring(equals + 3).split(" ");
        String[] words = (equals < 0 ? row : row.substring(0, equals)).split(" ");
        int name = words.length > 1 && words[1].equals("x") ? 2 : 0;
        int times = name == 0 ? 1 : Integer.parseInt(words[0]);
        List<int[]> each = new ArrayList<>();
        for (int i = 0; i < times; i++) {
            each.addAll(arguments(words, name + 1));
        }
        if (due.length > 1 && due.length != each.size()) {
            wrongs.add(row + ": " + each.size() + " calls, " + due.length + " answers: the test itself is wrong");
            return;
        }
        for (int i = 0; i < each.size(); i++) {
            int got = call(words[name], each.get(i));
            if (due.length > 0) {
                check(row, i, got, number(due.length == 1 ? due[0] : due[i]));
            }
        }
    }

    private void check(String row, int at, int got, int want) {
        checks++;
        if (got != want) {
            wrongs.add(row + ": call " + at + " answered " + got + ", due is " + want);
        }
    }

    /** The arguments of one call, or of as many as a row a..b has numbers. */
    private static List<int[]> arguments(String[] words, int from) {
        int[] first = new int[words.length - from];
        int ranged = -1;
        int last = 0;
        for (int i = 0; i < first.length; i++) {
            int dots = words[from + i].indexOf("..");
            if (dots >= 0) {
                ranged = i;
                last = number(words[from + i].substring(dots + 2));
            }
            first[i] = number(dots < 0 ? words[from + i] : words[from + i].substring(0, dots));
        }
        List<int[]> all = new ArrayList<>();
        all.add(first);
        for (int next = ranged < 0 ? 1 : first[ranged] + 1; ranged >= 0 && next <= last; next++) {
            int[] other = first.clone();
            other[ranged] = next;
            all.add(other);
        }
        return all;
    }

    private static int number(String word) {
        return NAMED.containsKey(word) ? NAMED.get(word) : Integer.parseInt(word);
    }

    private int call(String name, int[] arguments) {
        Method method = CALLS.get(name);
        if (method == null || method.getParameterCount() != arguments.length) {
            throw new IllegalStateException("no call " + name + " of " + arguments.length);
        }
        Object[] boxed = new Object[arguments.length];
        for (int i = 0; i < arguments.length; i++) {
            boxed[i] = arguments[i];
        }
        made++;
        try {
            int answer = (Integer) method.invoke(pot, boxed);
            answers.add(answer);
            return answer;
        } catch (InvocationTargetException thrown) {
            wrongs.add(name + " threw " + thrown.getCause());
            return Integer.MIN_VALUE;
        } catch (IllegalAccessException hidden) {
            throw new IllegalStateException(hidden);
        }
    }
}
