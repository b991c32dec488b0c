/** Counts the calls whose answer is not the one that is due, and fills sheets for the tests. */
final class Check {
    private int wrong;

    void due(String call, long got, long want) {
        if (got != want) {
            wrong++;
            System.out.println(call + " answered " + got + ", due is " + want);
        }
    }

    void same(String what, String got, String want) {
        if (!got.equals(want)) {
            wrong++;
            System.out.println(what + " is " + got + ", due is " + want);
        }
    }

    /** A call that names faults: its answer, and what fault() tells after it. */
    void due(String call, long got, long want, DancedLock x, int fault) {
        due(call, got, want);
        due("fault() after " + call, x.fault(), fault);
    }

    void end() {
        System.out.println(wrong == 0 ? "all answers are as due" : wrong + " answers are not as due");
        if (wrong != 0) {
            System.exit(1);
        }
    }

    static void cells(DancedLock x, int sheet, int sort, int... values) {
        x.sheet(sheet, sort, values.length);
        for (int i = 0; i < values.length; i++) {
            x.put(sheet, i, values[i]);
        }
    }

    static int lock(DancedLock x, String text) {
        cells(x, 0, 2, text.chars().toArray());
        return x.lock(0, 2, 0, text.length());
    }

    static DancedLock locked(String text) {
        DancedLock x = new DancedLock();
        lock(x, text);
        return x;
    }

    /** Dancers as pairs of kind and weight. */
    static DancedLock danced(String text, int... dancers) {
        DancedLock x = locked(text);
        for (int d = 0; d + 1 < dancers.length; d += 2) {
            x.dancer(dancers[d], dancers[d + 1]);
        }
        return x;
    }
}
