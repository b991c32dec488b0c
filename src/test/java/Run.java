import java.lang.reflect.InvocationTargetException;
import java.lang.reflect.Method;
import java.lang.reflect.Modifier;
import java.util.HashMap;
import java.util.List;
import java.util.Map;

/**
 * One object in use. Each call is told as a text; its answer is looked at, and fault() after it. A twin gets only
 * the calls that are to change something: at the end both must stand alike, so that whatever is refused, comes to a
 * fault or only asks is held to change nothing.
 */
final class Run implements Numbers {
    private static final List<String> NAMING_FAULTS =
        List.of("lock", "opens", "felt", "wrong", "seen", "part", "sheet", "put", "cell", "copy", "as");
    private static final List<String> CHANGING =
        List.of("lock", "change", "dancer", "leave", "family", "sheet", "lose", "put", "copy", "tell", "lead");
    private static final Map<String, Method> METHODS = methods();
    private static final int SHEETS = 4, SORTS = 3;

    private final Check check;
    private final String test;
    private final DancedLock object = new DancedLock();
    private final DancedLock twin = new DancedLock();
    private int calls;
    private int faultDue;

    Run(Check check, String test) {
        this.check = check;
        this.test = test;
    }

    // ---- what a run begins with

    /** A lock; no sheet has anything after it. */
    Run locked(String text) {
        cells(3, 0, text.chars().toArray());
        make("lock(3, 0, 0, " + text.length() + ")", text.chars().filter(code -> code == ';').count());
        make("lose(3)", 1);
        return this;
    }

    /** Dancers as pairs of kind and weight. */
    Run dancers(int... kindsAndWeights) {
        for (int at = 0; at + 1 < kindsAndWeights.length; at += 2) {
            make("dancer(" + kindsAndWeights[at] + ", " + kindsAndWeights[at + 1] + ")", at / 2);
        }
        return this;
    }

    Run families(int... bars) {
        for (int f = 0; f < bars.length; f++) {
            make("family(" + bars[f] + ")", f);
        }
        return this;
    }

    Run cells(int sheet, int sort, int... values) {
        make("sheet(" + sheet + ", " + sort + ", " + values.length + ")", 1);
        for (int i = 0; i < values.length; i++) {
            make("put(" + sheet + ", " + i + ", " + values[i] + ")", 1);
        }
        return this;
    }

    // ---- what is looked at

    void due(String call, long want) {
        look(call, want, 0);
    }

    void due(String call, long want, int fault) {
        look(call, want, fault);
    }

    void fault(String call, int fault) {
        look(call, nameOf(call).equals("cell") ? LOST : -10 - fault, fault);
    }

    /** A call that only asks, made over and over until there is none left to make. */
    void dueToTheLast(String call, long want) {
        while (calls < MOST_CALLS) {
            make(call, want);
        }
    }

    /** A text as the whole row of ints of sheet 0. */
    void text(String text, int want) {
        codes(text, want, text.chars().toArray());
    }

    void codes(String name, int want, int... codes) {
        cells(0, 2, codes);
        look("lock(0, 2, 0, " + codes.length + ")", want, 0, " of " + name);
    }

    /** The cells of a sheet from its first one on. */
    void sheetIs(int sheet, int sort, int... want) {
        for (int i = 0; i < want.length; i++) {
            due("cell(" + sheet + ", " + i + ", " + sort + ")", want[i]);
        }
        fault("cell(" + sheet + ", " + want.length + ", " + sort + ")", INDEX);
    }

    /** The first plan of a door, beat by beat. */
    void planIs(int door, int[]... want) {
        due("can(" + door + ")", 1);
        for (int k = 0; k < want.length; k++) {
            for (int d = 0; d < want[k].length; d++) {
                due("plan(" + door + ", " + k + ", " + d + ")", want[k][d]);
            }
        }
    }

    void end() {
        if (calls < MOST_CALLS) {
            String state = state(object);
            check.same(test + "what stands at the end", state, state(twin));
        }
        check.due(test + "calls above " + MOST_CALLS, Math.max(0, calls - MOST_CALLS), 0);
    }

    private void look(String call, long want, int fault) {
        look(call, want, fault, "");
    }

    private void look(String call, long want, int fault, String more) {
        if (NAMING_FAULTS.contains(nameOf(call))) {
            faultDue = fault;
        }
        make(call, want, more);
        check.due(test + "fault() after " + call + more, answer(object, "fault()"), faultDue);
    }

    private void make(String call, long want) {
        if (NAMING_FAULTS.contains(nameOf(call))) {
            faultDue = 0;
        }
        make(call, want, "");
    }

    private void make(String call, long want, String more) {
        check.due(test + call + more, answer(object, call), want);
        if (want >= 0 && CHANGING.contains(nameOf(call))) {
            answer(twin, call);
        }
    }

    // ---- calls told as texts

    private static Map<String, Method> methods() {
        Map<String, Method> methods = new HashMap<>();
        for (Method method : DancedLock.class.getDeclaredMethods()) {
            if (Modifier.isPublic(method.getModifiers())) {
                methods.put(method.getName(), method);
            }
        }
        return methods;
    }

    private static String nameOf(String call) {
        return call.substring(0, call.indexOf('('));
    }

    private long answer(DancedLock x, String call) {
        calls += x == object ? 1 : 0;
        String inside = call.substring(call.indexOf('(') + 1, call.indexOf(')'));
        String[] told = inside.isEmpty() ? new String[0] : inside.split(", ");
        Object[] arguments = new Object[told.length];
        for (int at = 0; at < told.length; at++) {
            arguments[at] = number(told[at]);
        }
        try {
            return ((Number) METHODS.get(nameOf(call)).invoke(x, arguments)).longValue();
        } catch (IllegalAccessException | InvocationTargetException e) {
            throw new AssertionError(test + call, e);
        }
    }

    private static int number(String told) {
        switch (told) {
            case "MIN": return Integer.MIN_VALUE;
            case "MAX": return Integer.MAX_VALUE;
            default: return Integer.parseInt(told);
        }
    }

    // ---- all that can be asked of what stands

    private String state(DancedLock x) {
        StringBuilder state = new StringBuilder();
        tell(state, x, "many(%d)", 0, 4);
        tell(state, x, "board(%d)", 0, 7);
        for (int door = 0; door < 4; door++) {
            tell(state, x, "beat(" + door + ", %d)", -1, (int) answer(x, "beat(" + door + ", -1)"));
        }
        for (int d = 0; d < answer(x, "many(2)"); d++) {
            tell(state, x, "ofDancer(" + d + ", %d)", 0, 2);
        }
        tell(state, x, "knows(%d)", 0, 6);
        tell(state, x, "trace()", 0, 1);
        for (int k = 0; k < SHEETS; k++) {
            tellSheet(state, x, k);
        }
        return state.toString();
    }

    private void tell(StringBuilder state, DancedLock x, String call, int from, int to) {
        for (int number = from; number < to; number++) {
            String told = String.format(call, number);
            state.append(told).append(' ').append(answer(x, told)).append("; ");
        }
    }

    private void tellSheet(StringBuilder state, DancedLock x, int k) {
        for (int sort = 0; sort < SORTS; sort++) {
            long cell = 0;
            for (int i = 0; cell != LOST; i++) {
                String told = "cell(" + k + ", " + i + ", " + sort + ")";
                cell = answer(x, told);
                state.append(told).append(' ').append(cell == LOST ? "fault " + answer(x, "fault()") : cell).append("; ");
            }
        }
    }
}
