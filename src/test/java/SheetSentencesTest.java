/** Promises 27 to 31 and 36, sentence by sentence: sheet, lose, put, cell, copy, fault. */
public final class SheetSentencesTest implements Numbers {
    private static final Sentences DOC = new Sentences();
    private static final String[] NO_SHEETS = {"-1", "4", "MIN", "MAX"};
    private static final String[] NO_SORTS = {"-1", "3", "MIN", "MAX"};

    public static void main(String[] args) {
        sheet();
        sheetRefused();
        lose();
        put();
        cell();
        cellRefused();
        copy();
        copyRefused();
        copyFaults();
        fault();
        numbersOfFaults();
        refusals();
        DOC.end(27, 28, 29, 30, 31, 36);
    }

    private static void sheet() {
        Run x = DOC.test(27, "a row of 0 .. 80 numbers (0 at first) of a SORT: 0 bytes, 1 shorts, 2 ints");
        x.due("sheet(0, 0, 0)", 1);
        x.fault("cell(0, 0, 0)", INDEX);
        x.due("sheet(1, 1, 1)", 1);
        x.sheetIs(1, 1, 0);
        x.due("sheet(3, 2, 80)", 1);
        x.due("cell(3, 0, 2)", 0);
        x.due("cell(3, 79, 2)", 0);
        x.fault("cell(3, 80, 2)", INDEX);
        x.due("sheet(3, 0, 81)", OUTSIDE);
        x.due("put(3, 79, 5)", 1);
        x.due("cell(3, 79, 2)", 5);

        x = DOC.test(27, "A SHEET gets a new row: 1.");
        x.cells(1, 2, 70000, 70001, 70002).cells(2, 0, 9);
        x.due("sheet(1, 2, 3)", 1);
        x.sheetIs(1, 2, 0, 0, 0);
        x.due("put(1, 1, 70000)", 1);
        x.due("sheet(1, 1, 2)", 1);
        x.sheetIs(1, 1, 0, 0);
        x.fault("cell(1, 0, 2)", CAST);
        x.due("put(1, 1, 7)", 1);
        x.due("sheet(1, 1, 0)", 1);
        x.due("sheet(1, 1, 2)", 1);
        x.sheetIs(1, 1, 0, 0);
        x.sheetIs(2, 0, 9);
        x.due("sheet(1, 0, 0)", 1);
        x.due("lose(1)", 1);

        x = DOC.test(27, "SHEETS 0 .. 3 have nothing (at first), or a row");
        for (int k = 0; k < 4; k++) {
            x.fault("cell(" + k + ", 0, 0)", NULL);
            x.due("sheet(" + k + ", 0, 1)", 1);
            x.due("put(" + k + ", 0, " + (k + 1) + ")", 1);
        }
        for (int k = 0; k < 4; k++) {
            x.sheetIs(k, 0, k + 1);
        }
    }

    private static void sheetRefused() {
        Run x = DOC.test(27, "OUTSIDE: sort, n above 80");
        for (String sheet : NO_SHEETS) {
            x.due("sheet(" + sheet + ", 0, 1)", UNKNOWN);
        }
        for (String sort : NO_SORTS) {
            x.due("sheet(0, " + sort + ", 1)", OUTSIDE);
        }
        for (String n : new String[] {"81", "82", "MAX"}) {
            x.due("sheet(0, 0, " + n + ")", OUTSIDE);
        }
        x.due("lose(0)", 0);

        x = DOC.test(27, "OUTSIDE: sort, n above 80; SIZE.");
        x.cells(1, 1, 5, 6);
        for (String n : new String[] {"-1", "-80", "MIN"}) {
            x.fault("sheet(0, 0, " + n + ")", SIZE);
            x.fault("sheet(1, 2, " + n + ")", SIZE);
            x.due("sheet(0, 3, " + n + ")", OUTSIDE);
            x.due("sheet(1, -1, " + n + ")", OUTSIDE);
        }
        x.due("lose(0)", 0);
        x.sheetIs(1, 1, 5, 6);

        x = DOC.test(27, "UNKNOWN; OUTSIDE: sort, n above 80; SIZE.");
        x.due("sheet(4, 3, 1)", UNKNOWN);
        x.due("sheet(4, 0, 81)", UNKNOWN);
        x.due("sheet(4, 0, -1)", UNKNOWN);
        x.due("sheet(-1, -1, -1)", UNKNOWN);
        x.due("sheet(3, 3, 81)", OUTSIDE);
    }

    private static void lose() {
        Run x = DOC.test(28, "A SHEET has nothing: 1; 0: it had nothing.");
        for (int k = 0; k < 4; k++) {
            x.due("lose(" + k + ")", 0);
            x.due("sheet(" + k + ", 2, " + k + ")", 1);
        }
        for (int k = 0; k < 4; k++) {
            x.due("lose(" + k + ")", 1);
            x.due("lose(" + k + ")", 0);
            x.fault("put(" + k + ", 0, 0)", NULL);
            x.fault("cell(" + k + ", 0, 2)", NULL);
        }
        x.cells(1, 0, 7).cells(2, 0, 8);
        x.due("lose(1)", 1);
        x.sheetIs(2, 0, 8);
        x.due("sheet(1, 0, 1)", 1);
        x.sheetIs(1, 0, 0);

        x = DOC.test(28, "0: it had nothing. UNKNOWN.");
        x.cells(0, 0, 1).cells(3, 0, 1);
        for (String sheet : NO_SHEETS) {
            x.due("lose(" + sheet + ")", UNKNOWN);
        }
        x.sheetIs(0, 0, 1);
        x.sheetIs(3, 0, 1);
    }

    private static void put() {
        Run x = DOC.test(29, "what comes to a cell of it is cut to its SORT (with its sign)");
        x.cells(0, 0, 127, 128, 255, 256, -128, -129, 65535, Integer.MAX_VALUE, Integer.MIN_VALUE);
        x.sheetIs(0, 0, 127, -128, -1, 0, -128, 127, -1, -1, 0);
        x.cells(1, 1, 32767, 32768, 65535, 65536, -32768, -32769, 255, Integer.MAX_VALUE, Integer.MIN_VALUE);
        x.sheetIs(1, 1, 32767, -32768, -1, 0, -32768, 32767, 255, -1, 0);
        x.cells(2, 2, 32768, 65536, -32769, Integer.MAX_VALUE, Integer.MIN_VALUE);
        x.sheetIs(2, 2, 32768, 65536, -32769, Integer.MAX_VALUE, Integer.MIN_VALUE);

        x = DOC.test(29, "Cell i of a SHEET becomes v: 1.");
        x.cells(1, 1, 5, 6, 7);
        x.due("put(1, 0, 15)", 1);
        x.due("put(1, 2, 17)", 1);
        x.sheetIs(1, 1, 15, 6, 17);
        x.due("put(1, 1, 0)", 1);
        x.sheetIs(1, 1, 15, 0, 17);

        x = DOC.test(29, "UNKNOWN; NULL; INDEX.");
        x.cells(1, 1, 5, 6).cells(2, 2);
        for (String sheet : NO_SHEETS) {
            x.due("put(" + sheet + ", 0, 1)", UNKNOWN);
            x.due("put(" + sheet + ", -1, 1)", UNKNOWN);
        }
        for (String i : new String[] {"-1", "2", "3", "79", "80", "MIN", "MAX"}) {
            x.fault("put(0, " + i + ", 1)", NULL);
            x.fault("put(1, " + i + ", 1)", INDEX);
        }
        x.fault("put(0, 0, 1)", NULL);
        x.fault("put(2, 0, 1)", INDEX);
        x.due("put(1, 1, 1)", 1);
        x.sheetIs(1, 1, 5, 1);
    }

    private static void cell() {
        Run x = DOC.test(30, "Cell i of what a SHEET has, taken as a row of a SORT.");
        x.cells(0, 0, 1, -2).cells(1, 1, 300, -300).cells(3, 2, 70000, -70000);
        x.sheetIs(0, 0, 1, -2);
        x.sheetIs(1, 1, 300, -300);
        x.sheetIs(3, 2, 70000, -70000);

        x = DOC.test(30, "FAULTS CAST (nothing is no CAST), NULL, INDEX.");
        x.cells(0, 0, 1, 2).cells(1, 1, 1, 2).cells(2, 2, 1, 2);
        for (int sheet = 0; sheet < 3; sheet++) {
            for (int sort = 0; sort < 3; sort++) {
                if (sort != sheet) {
                    x.fault("cell(" + sheet + ", 0, " + sort + ")", CAST);
                    x.fault("cell(" + sheet + ", 2, " + sort + ")", CAST);
                    x.fault("cell(" + sheet + ", -1, " + sort + ")", CAST);
                }
            }
            x.fault("cell(3, 0, " + sheet + ")", NULL);
            x.fault("cell(3, -1, " + sheet + ")", NULL);
            for (String i : new String[] {"-1", "2", "3", "79", "80", "MIN", "MAX"}) {
                x.fault("cell(" + sheet + ", " + i + ", " + sheet + ")", INDEX);
            }
        }
        x.due("sheet(3, 0, 0)", 1);
        x.fault("cell(3, 0, 0)", INDEX);
    }

    private static void cellRefused() {
        Run x = DOC.test(30, "LOST: UNKNOWN, OUTSIDE: sort");
        x.cells(1, 0, 1);
        for (String sheet : NO_SHEETS) {
            x.due("cell(" + sheet + ", 0, 0)", LOST);
        }
        for (String sort : NO_SORTS) {
            x.due("cell(1, 0, " + sort + ")", LOST);
        }

        // refusals and faults answer alike here: fault() alone tells which of them was come to
        x = DOC.test(30, "LOST: UNKNOWN, OUTSIDE: sort; FAULTS CAST (nothing is no CAST), NULL, INDEX.");
        x.cells(1, 0, 1);
        x.fault("cell(1, 1, 0)", INDEX);
        x.due("cell(4, -1, 0)", LOST);
        x.fault("cell(1, 1, 0)", INDEX);
        x.due("cell(4, 0, 3)", LOST);
        x.fault("cell(1, 1, 0)", INDEX);
        x.due("cell(1, 0, 3)", LOST);
        x.fault("cell(1, 1, 0)", INDEX);
        x.due("cell(0, 0, 3)", LOST);
        x.fault("cell(1, 1, 0)", INDEX);
        x.due("cell(1, 1, -1)", LOST);
        x.due("cell(1, 0, 0)", 1);
    }

    private static void copy() {
        Run x = DOC.test(31, "n cells of a SHEET from i on go to another one");
        x.cells(0, 1, 1, 2, 3, 4).cells(1, 1, 9, 9, 9);
        x.due("copy(0, 1, 1, 0, 2)", 2);
        x.sheetIs(1, 1, 2, 3, 9);
        x.sheetIs(0, 1, 1, 2, 3, 4);
        x.due("copy(0, 3, 1, 2, 1)", 1);
        x.sheetIs(1, 1, 2, 3, 4);
        x.due("copy(1, 0, 0, 0, 3)", 3);
        x.sheetIs(0, 1, 2, 3, 4, 4);
        x.due("copy(0, 0, 1, 0, 0)", 0);
        x.due("copy(0, 4, 1, 3, 0)", 0);
        x.cells(2, 2, Integer.MIN_VALUE).cells(3, 2, 0, 0);
        x.due("copy(2, 0, 3, 1, 1)", 1);
        x.sheetIs(3, 2, 0, Integer.MIN_VALUE);
        x.due("put(2, 0, 5)", 1);
        x.sheetIs(3, 2, 0, Integer.MIN_VALUE);

        x = DOC.test(31, "(perhaps the same) from j on, as they were: n.");
        x.cells(0, 0, 1, 2, 3, 4, 5);
        x.due("copy(0, 0, 0, 1, 4)", 4);
        x.sheetIs(0, 0, 1, 1, 2, 3, 4);
        x.due("copy(0, 2, 0, 0, 3)", 3);
        x.sheetIs(0, 0, 2, 3, 4, 3, 4);
        x.due("copy(0, 0, 0, 0, 5)", 5);
        x.due("copy(0, 5, 0, 5, 0)", 0);
        x.sheetIs(0, 0, 2, 3, 4, 3, 4);

        x = DOC.test(31, "a row of 0 .. 80 numbers");
        x.due("sheet(0, 2, 80)", 1);
        x.due("sheet(1, 2, 80)", 1);
        x.due("put(0, 0, 7)", 1);
        x.due("put(0, 79, 8)", 1);
        x.due("copy(0, 0, 1, 0, 80)", 80);
        x.due("cell(1, 0, 2)", 7);
        x.due("cell(1, 79, 2)", 8);
        x.due("copy(0, 79, 1, 0, 1)", 1);
        x.due("cell(1, 0, 2)", 8);
        x.fault("copy(0, 79, 1, 0, 2)", INDEX);
        x.fault("copy(0, 0, 1, 79, 2)", INDEX);
        x.due("lose(0)", 1);
        x.due("lose(1)", 1);
    }

    private static void copyRefused() {
        Run x = DOC.test(31, "as they were: n. UNKNOWN;");
        x.cells(0, 0, 1).cells(3, 0, 2);
        for (String sheet : NO_SHEETS) {
            x.due("copy(" + sheet + ", 0, 0, 0, 1)", UNKNOWN);
            x.due("copy(0, 0, " + sheet + ", 0, 1)", UNKNOWN);
            x.due("copy(" + sheet + ", 0, " + sheet + ", 0, 1)", UNKNOWN);
        }
        x.due("copy(0, 0, 3, 0, 1)", 1);
        x.sheetIs(3, 0, 1);

        x = DOC.test(31, "UNKNOWN; FAULTS NULL (the first, the other), CAST (unlike SORTS), "
            + "INDEX: i, j, n below 0 or beyond.");
        x.cells(0, 1, 1, 2, 3).cells(1, 0, 4, 5);
        x.due("copy(4, 0, 2, 0, 0)", UNKNOWN);
        x.due("copy(2, 0, 4, 0, 0)", UNKNOWN);
        x.due("copy(4, -1, 0, -1, -1)", UNKNOWN);
        x.due("copy(0, -1, 4, -1, -1)", UNKNOWN);
        x.fault("copy(2, -1, 0, 0, 0)", NULL);
        x.fault("copy(0, 0, 2, -1, 0)", NULL);
        x.fault("copy(2, 0, 0, 0, -1)", NULL);
        x.fault("copy(0, 0, 2, 0, -1)", NULL);
        x.fault("copy(2, 0, 3, 0, 9)", NULL);
        x.fault("copy(0, -1, 1, 0, 0)", CAST);
        x.fault("copy(0, 0, 1, 3, 0)", CAST);
        x.fault("copy(1, 0, 0, 0, -1)", CAST);
        x.fault("copy(1, 0, 0, 0, 3)", CAST);
    }

    private static void copyFaults() {
        Run x = DOC.test(31, "FAULTS NULL (the first, the other)");
        x.cells(0, 0, 1);
        x.fault("copy(1, 0, 0, 0, 1)", NULL);
        x.fault("copy(0, 0, 1, 0, 1)", NULL);
        x.fault("copy(1, 0, 1, 0, 0)", NULL);
        x.fault("copy(1, 0, 0, 0, 0)", NULL);
        x.fault("copy(0, 0, 1, 0, 0)", NULL);

        x = DOC.test(31, "CAST (unlike SORTS)");
        x.cells(0, 0, 1).cells(1, 1, 2).cells(2, 2, 3);
        for (int sheet = 0; sheet < 3; sheet++) {
            for (int other = 0; other < 3; other++) {
                if (other == sheet) {
                    x.due("copy(" + sheet + ", 0, " + other + ", 0, 1)", 1);
                } else {
                    x.fault("copy(" + sheet + ", 0, " + other + ", 0, 1)", CAST);
                    x.fault("copy(" + sheet + ", 0, " + other + ", 0, 0)", CAST);
                }
            }
        }

        x = DOC.test(31, "INDEX: i, j, n below 0 or beyond");
        x.cells(0, 1, 1, 2, 3).cells(1, 1, 7, 8);
        for (String no : new String[] {"-1", "4", "80", "MIN", "MAX"}) {
            x.fault("copy(0, " + no + ", 1, 0, 0)", INDEX);
            x.fault("copy(1, 0, 0, " + no + ", 0)", INDEX);
            x.fault("copy(0, 0, 0, 0, " + no + ")", INDEX);
            x.fault("copy(0, " + no + ", 1, " + no + ", " + no + ")", INDEX);
        }
        x.fault("copy(0, 0, 1, 0, 3)", INDEX);
        x.fault("copy(1, 0, 0, 0, 3)", INDEX);
        x.fault("copy(0, 2, 1, 0, 2)", INDEX);
        x.fault("copy(0, 0, 1, 1, 2)", INDEX);
        x.fault("copy(0, 0, 1, 3, 0)", INDEX);
        x.fault("copy(1, 3, 0, 0, 0)", INDEX);
        x.fault("copy(0, 1, 1, 1, MAX)", INDEX);
        x.fault("copy(0, 1, 1, 1, -1)", INDEX);
        x.due("copy(0, 3, 1, 2, 0)", 0);
        x.due("copy(0, 1, 1, 0, 2)", 2);
    }

    private static void fault() {
        Run x = DOC.test(36, "0: it came to none, or was refused (0 ahead of any)");
        x.due("fault()", 0);
        x.locked("l211;0").dancers(0, 1).cells(1, 0, 0);
        String[] none = {"lock(1, 0, 0, 1)", "opens(1, 1, 0, 0)", "felt(1, 0, 1, 0, 0)", "wrong(0, 1, 0, 0)",
            "seen(3, 1, 0, 0, 1)", "part(1, 0, 0, 1)", "sheet(2, 0, 1)", "put(1, 0, 0)", "cell(1, 0, 0)",
            "copy(1, 0, 1, 0, 1)", "as(0, 0)"};
        long[] answers = {-100, 0, 1, NONE, 0, 0, 1, 1, 0, 1, 1};
        String[] refused = {"lock(4, 0, 0, 1)", "opens(1, 4, 0, 0)", "felt(1, 1, 1, 0, 0)", "wrong(1, 1, 0, 0)",
            "seen(4, 1, 0, 0, 1)", "part(1, 3, 0, 1)", "sheet(2, 0, 81)", "put(4, 0, 0)", "cell(1, 0, 3)",
            "copy(4, 0, 1, 0, 1)", "as(0, 3)"};
        long[] refusals = {UNKNOWN, UNKNOWN, OUTSIDE, UNKNOWN, OUTSIDE, OUTSIDE, OUTSIDE, UNKNOWN, LOST, UNKNOWN, OUTSIDE};
        for (int call = 0; call < none.length; call++) {
            x.fault("put(3, 0, 0)", NULL);
            x.due(none[call], answers[call]);
            x.due("fault()", 0);
            x.fault("put(3, 0, 0)", NULL);
            x.due(refused[call], refusals[call]);
            x.due("fault()", 0);
        }

        x = DOC.test(36, "The FAULT of the latest call that names one");
        x.locked("l211;0,0").dancers(0, 1, 0, 1).cells(1, 0, 0);
        String[] faults = {"lock(1, 0, 0, -1)", "opens(1, 1, 1, 0)", "felt(1, 0, 1, 0, 0)", "wrong(0, 2, 0, 0)",
            "seen(3, 1, 0, 0, -1)", "part(1, 0, 0, 2)", "sheet(2, 0, -1)", "put(1, 1, 0)", "cell(1, 0, 2)",
            "copy(1, 0, 1, 0, 2)", "as(0, 1)"};
        int[] want = {SIZE, CAST, INDEX, NULL, SIZE, INDEX, SIZE, INDEX, CAST, INDEX, CAST};
        for (int call = 0; call < faults.length; call++) {
            x.fault(faults[call], want[call]);
            x.due("fault()", want[call]);
        }
        String[] others = {"board(0)", "board(9)", "beat(0, 0)", "beat(9, 0)", "change(0, 0, 1)", "change(0, 0, 9)",
            "dancer(0, 10)", "ofDancer(0, 1)", "ofDancer(0, 9)", "leave(0)", "leave(9)", "can(0)", "can(9)",
            "plan(0, 0, 0)", "plan(9, 0, 0)", "limped(0)", "limped(9)", "family(9)", "family(3)", "knows(0)", "knows(9)",
            "fewest(0)", "fewest(9)", "any(0)", "any(9)", "gone(0, 0)", "gone(0, 9)", "evenings(0)", "evenings(9)",
            "apart(0, 0)", "apart(0, 9)", "nearest(0)", "nearest(9)", "safe()", "plans(0, 0)", "plans(9, 0)", "lose(2)",
            "lose(9)", "tell(0)", "tell(9)", "lead(0)", "lead(9)", "trace()", "many(0)", "many(9)"};
        long[] due = {1, UNKNOWN, 1, UNKNOWN, 1, OUTSIDE,
            OUTSIDE, 1, OUTSIDE, 2, OUTSIDE, 1, UNKNOWN,
            0, UNKNOWN, 0, UNKNOWN, OUTSIDE, 0, 3, UNKNOWN,
            1, UNKNOWN, 1, UNKNOWN, 0, OUTSIDE, 0, UNKNOWN,
            0, UNKNOWN, NONE, UNKNOWN, 1, 1, LOST, 0,
            UNKNOWN, 1, UNKNOWN, 0, UNKNOWN, 35, 2, OUTSIDE};
        for (int call = 0; call < others.length; call++) {
            x.due(others[call], due[call]);
            x.due("fault()", CAST);
        }
    }

    private static void numbersOfFaults() {
        Run x = DOC.test(36, "FAULTS are the machine's: 1 NULL (there is nothing), 2 CAST (it is of another sort, kind), "
            + "3 INDEX");
        x.locked("l211;").dancers(1, 1).cells(1, 0, 5);
        x.due("put(2, 0, 0)", -11, 1);
        x.due("lock(1, 1, 0, 1)", -12, 2);
        x.due("as(0, 2)", -12, 2);
        x.due("put(1, 1, 0)", -13, 3);
        x.due("cell(1, 1, 0)", LOST, 3);

        x = DOC.test(36, "4 SIZE (a length below 0).");
        x.cells(1, 0, 5);
        x.due("sheet(1, 0, -1)", -14, 4);
        x.due("lock(1, 0, 0, -1)", -14, 4);
        x.due("part(1, 0, 0, MIN)", -14, 4);
        x.due("copy(1, 0, 1, 0, -1)", -13, 3);

        x = DOC.test(36, "Of a call the first that is come to, in the order told");
        x.cells(1, 0, 5);
        x.due("part(2, 0, 2, -1)", -11, 1);
        x.due("part(1, 1, 2, -1)", -12, 2);
        x.due("part(1, 0, 2, -1)", -14, 4);
        x.due("part(1, 0, 2, 1)", -13, 3);
        x.due("copy(2, -1, 1, -1, -1)", -11, 1);
        x.due("cell(1, 1, 1)", LOST, 2);

        x = DOC.test(36, "REFUSALS, in the order in which a call's line tells them: UNKNOWN");
        x.cells(1, 0, 5);
        x.due("part(4, 3, 0, 0)", UNKNOWN);
        x.due("part(1, 3, 0, 0)", OUTSIDE);
        x.due("part(1, 0, 0, 0)", STATE);
        x.locked("l211;").dancers(0, 1, 0, 1, 0, 1, 0, 1);
        x.due("part(1, 0, 0, 0)", OUTSIDE);
        x.due("dancer(3, 1)", OUTSIDE);
        x.due("dancer(2, 1)", FULL);
    }

    private static void refusals() {
        Run x = DOC.test(36, "they change nothing (but fault(), of a call that names FAULTS)");
        x.locked("l211;0,1;1").dancers(0, 1, 1, 2, 2, 3, 0, 4).families(1, 2, 3, 64, 65, 66).cells(1, 0, 7, 8);
        x.due("lead(2)", 60);
        x.due("lock(1, 3, 0, 2)", OUTSIDE);
        x.due("lock(1, 0, 0, 2)", -100);
        x.due("change(0, 0, 4)", OUTSIDE);
        x.due("dancer(0, 1)", FULL);
        x.due("leave(5)", OUTSIDE);
        x.due("family(1)", FULL);
        x.due("sheet(1, 3, 1)", OUTSIDE);
        x.due("sheet(1, 0, 81)", OUTSIDE);
        x.due("lose(4)", UNKNOWN);
        x.due("put(4, 0, 9)", UNKNOWN);
        x.due("copy(1, 0, 4, 0, 1)", UNKNOWN);
        x.due("tell(4)", UNKNOWN);
        x.due("lead(-1)", UNKNOWN);
        x.due("seen(3, 1, 0, 0, 2)", OUTSIDE);
        x.due("part(1, 0, 0, 0)", OUTSIDE);
        x.due("as(0, 3)", OUTSIDE);

        x = DOC.test(36, "it answers -10 less it (LOST, where a long is answered, as for refusals) and changes nothing");
        x.locked("l211;0,1;1").dancers(0, 1, 1, 2).families(1, 66).cells(1, 0, 7, 8);
        x.fault("lock(1, 1, 0, 2)", CAST);
        x.fault("sheet(1, 1, -1)", SIZE);
        x.fault("put(1, 2, 5)", INDEX);
        x.fault("put(2, 0, 5)", NULL);
        x.fault("copy(1, 0, 1, 1, 2)", INDEX);
        x.fault("copy(1, 0, 2, 0, 1)", NULL);
        x.fault("cell(1, 2, 0)", INDEX);
        x.fault("as(0, 2)", CAST);
        x.fault("opens(2, 1, 0, 0)", INDEX);
        x.fault("seen(3, 2, 0, 0, 0)", NULL);
    }
}
