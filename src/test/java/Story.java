import java.lang.reflect.InvocationTargetException;
import java.lang.reflect.Method;
import java.util.ArrayList;
import java.util.HashMap;
import java.util.List;
import java.util.Map;

/**
 * A run of calls, told on two new objects: on the first with every call, on the second without those after which
 * nothing has changed. All that can be asked afterwards must then be answered alike by both.
 */
final class Story {
    /** The document promises nothing of an object after its 512th call. */
    private static final int MOST_CALLS = 512;
    private static final int LEAST_ROOM = 40;
    private static final int FULL = -4, UNKNOWN = -1, SIZE = -35, KIND = -31;

    private record Step(String call, long due, boolean changes) {
    }

    private static final Map<String, Method> FACE = new HashMap<>();

    static {
        for (Method m : LoanCases.class.getMethods()) {
            if (m.getDeclaringClass() == LoanCases.class) {
                FACE.put(m.getName(), m);
            }
        }
    }

    private final String sentence;
    private final List<Step> steps = new ArrayList<>();
    private final int[] findings = new int[6];

    /** The sentence is the document's, as far as it names the case that is told. */
    Story(String sentence) {
        this.sentence = sentence;
    }

    Story does(String call, long due) {
        return step(call, due, true);
    }

    /** A question: nothing changes. */
    Story asked(String call, long due) {
        return step(call, due, false);
    }

    /** UNKNOWN, OUTSIDE, TURN, FULL: nothing changes. */
    Story refused(String call, long due) {
        if (due < FULL || due > UNKNOWN) {
            throw new IllegalArgumentException(due + " is no refusal");
        }
        return step(call, due, false);
    }

    /** A FINDING: nothing changes, but that it is counted. */
    Story found(String call, long due) {
        if (due < SIZE || due > KIND) {
            throw new IllegalArgumentException(due + " is no finding");
        }
        findings[(int) (-30 - due)]++;
        return step(call, due, false);
    }

    private Story step(String call, long due, boolean changes) {
        steps.add(new Step(call, due, changes));
        return this;
    }

    void end(String name, Check check) {
        String label = name + " (\"" + sentence + "\")";
        int before = check.wrong();
        LoanCases first = told(label, check, true);
        told(label, check, false);
        if (check.wrong() > before) {
            return;
        }
        int things = (int) answer(first, "count(0)");
        int loans = (int) answer(first, "count(3)");
        List<String> leaves = each("leave", loans);
        List<String> returns = new ArrayList<>(leaves);
        returns.addAll(each("back", loans));
        compare(label, check, List.of(), all(things, loans));
        compare(label, check, leaves, lent(things, loans));
        compare(label, check, returns, lent(things, loans));
        compare(label, check, List.of(), List.of("loan()", "makeCase()", "row(5, 1)", "thing(0, 0)", "count(0)"));
        compare(label, check, List.of("clear()"), List.of("count(0)", "count(1)", "count(3)", "thing(0, 0)", "loan()"));
    }

    private LoanCases told(String label, Check check, boolean whole) {
        LoanCases store = new LoanCases();
        for (Step s : steps) {
            if (whole || s.changes) {
                check.due(label + ": " + s.call, answer(store, s.call), s.due);
            }
        }
        return store;
    }

    /** Asks both objects, with as many new pairs of them as the calls that an object is good for make needful. */
    private void compare(String label, Check check, List<String> ahead, List<String> questions) {
        int room = MOST_CALLS - steps.size() - ahead.size();
        if (room < LEAST_ROOM) {
            throw new IllegalStateException(label + " has too many calls");
        }
        for (int from = 0; from < questions.size(); from += room) {
            LoanCases first = told(label, check, true);
            LoanCases second = told(label, check, false);
            for (String call : ahead) {
                check.due(label + ", then " + call, answer(first, call), answer(second, call));
            }
            for (String call : questions.subList(from, Math.min(questions.size(), from + room))) {
                long extra = counted(call);
                check.due(label + ", then " + ahead + " " + call, answer(first, call), answer(second, call) + extra);
            }
        }
    }

    private int counted(String call) {
        for (int f = 1; f <= 5; f++) {
            if (call.equals("count(" + (f + 3) + ")")) {
                return findings[f];
            }
        }
        return 0;
    }

    private static List<String> each(String method, int n) {
        List<String> calls = new ArrayList<>();
        for (int i = 0; i < n; i++) {
            calls.add(method + "(" + i + ")");
        }
        return calls;
    }

    private static void range(List<String> calls, String start, int low, int high) {
        for (int n = low; n <= high; n++) {
            calls.add(start + n + ")");
        }
    }

    private static List<String> all(int things, int loans) {
        List<String> calls = lent(things, loans);
        for (int t = 0; t <= things; t++) {
            range(calls, "is(" + t + ", ", 0, 20);
            range(calls, "worth(" + t + ", ", 0, 3);
            range(calls, "size(" + t + ", ", 5, 17);
            calls.add("kinds(" + t + ")");
            calls.add("date(" + t + ")");
            calls.add("depth(" + t + ")");
            calls.add("inside(" + t + ")");
            for (int kind = 5; kind <= 17; kind++) {
                range(calls, (kind <= 8 ? "read(" : "at(") + t + ", " + kind + ", ", 0, 9);
            }
        }
        return calls;
    }

    private static List<String> lent(int things, int loans) {
        List<String> calls = new ArrayList<>();
        range(calls, "count(", 0, 8);
        for (int l = 0; l <= loans; l++) {
            range(calls, "told(" + l + ", ", 0, 3);
            range(calls, "van(" + l + ", ", 0, 7);
        }
        range(calls, "held(", 0, things);
        return calls;
    }

    /** What a written call answers; read's exceptions have numbers of their own, no other may come. */
    static long answer(LoanCases store, String call) {
        int open = call.indexOf('(');
        String name = call.substring(0, open);
        String inner = call.substring(open + 1, call.length() - 1);
        String[] words = inner.isEmpty() ? new String[0] : inner.split(", ");
        Method m = FACE.get(name);
        Object[] arguments = new Object[words.length];
        for (int n = 0; n < words.length; n++) {
            boolean wide = m.getParameterTypes()[n] == long.class;
            arguments[n] = wide ? (Object) Long.valueOf(words[n]) : (Object) Integer.valueOf(words[n]);
        }
        try {
            return ((Number) m.invoke(store, arguments)).longValue();
        } catch (InvocationTargetException e) {
            return thrown(call, name, e.getCause());
        } catch (IllegalAccessException e) {
            throw new IllegalStateException(e);
        }
    }

    private static long thrown(String call, String name, Throwable e) {
        if (name.equals("read") && e.getClass() == ClassCastException.class) {
            return Check.CAST;
        }
        if (name.equals("read") && e.getClass() == ArrayIndexOutOfBoundsException.class) {
            return Check.INDEX;
        }
        throw new IllegalStateException(call + " throws", e);
    }
}
