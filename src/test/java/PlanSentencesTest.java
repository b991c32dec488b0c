/** Promises 9 to 11, sentence by sentence: a plan judged by opens, felt and wrong. */
public final class PlanSentencesTest implements Numbers {
    private static final Sentences DOC = new Sentences();
    private static final String[] NO_SHEETS = {"-1", "4", "MIN", "MAX"};
    private static final String[] NO_SORTS = {"-1", "3", "MIN", "MAX"};

    public static void main(String[] args) {
        weights();
        limping();
        opens();
        cellsOfOpens();
        opensRefused();
        opensFaults();
        opensOrder();
        felt();
        feltRefused();
        feltOrder();
        wrong();
        wrongRefused();
        wrongOrder();
        DOC.end(9, 10, 11);
    }

    private static void weights() {
        Run x = DOC.test(10, "A BOARD is FELT in a BEAT, if those who TREAD it weigh as much as told together, or more.");
        x.locked("l259;").dancers(0, 2, 1, 3).cells(1, 0, 0, 0, 0, 0);
        x.due("felt(1, 0, 1, 0, 0)", 1);
        x.due("leave(1)", 1);
        x.due("felt(1, 0, 1, 0, 0)", 0);
        x.due("dancer(0, 2)", 1);
        x.due("felt(1, 0, 1, 0, 0)", 0);
        x.due("dancer(0, 1)", 2);
        x.due("felt(1, 0, 1, 0, 0)", 1);
        x.due("dancer(0, 1)", 3);
        x.due("felt(1, 0, 1, 0, 0)", 1);
        x.due("leave(4)", 0);
        x.due("felt(1, 0, 1, 0, 0)", 0);
        x.due("dancer(0, 5)", 0);
        x.due("felt(1, 0, 1, 0, 0)", 1);
        x.due("put(1, 0, 1)", 1);
        x.due("felt(1, 0, 1, 0, 0)", 0);

        x = DOC.test(10, "a CHILD half of that (cut)");
        x.locked("l212;").dancers(2, 1, 2, 1).cells(1, 0, 0, 0, 1, 0);
        x.due("felt(1, 0, 1, 0, 0)", 0);
        x.due("leave(2)", 0);
        x.dancers(2, 2);
        x.due("felt(1, 0, 1, 0, 0)", 1);
        x.due("felt(1, 0, 1, 0, 2)", 0);
        x.due("leave(1)", 0);
        x.dancers(2, 4);
        x.due("felt(1, 0, 1, 0, 2)", 2);
        x.due("leave(1)", 0);
        x.dancers(2, 3);
        x.due("felt(1, 0, 1, 0, 2)", 0);
    }

    private static void limping() {
        Run x = DOC.test(10, "a LIMPER (a CHILD, too) in BEATS 1, 3, 5 the one of the BEAT ahead");
        x.locked("l71111111;").cells(1, 0, 0, 1, 2, 3, 4, 5);
        int[] plain = {1, 2, 4, 8, 16, 32};
        int[] limping = {1, 1, 4, 4, 16, 16};
        for (int kind = 0; kind < 3; kind++) {
            x.dancers(kind, 2);
            for (int k = 0; k < 6; k++) {
                x.due("felt(6, " + k + ", 1, 0, 0)", kind == 0 ? plain[k] : limping[k]);
            }
            x.due("leave(1)", 0);
        }
        x.dancers(0, 1, 1, 1, 2, 2);
        x.due("felt(2, 1, 1, 0, 0)", 8 | 2 | 4);
    }

    private static void opens() {
        Run x = DOC.test(9, "A PLAN OPENS the least DOOR of as many BEATS");
        x.locked("l3111;0,1,1;0,1;0,1;0").dancers(0, 1).cells(1, 0, 0, 1, 1, 1, 1, 1);
        x.due("opens(1, 1, 0, 0)", 3);
        x.due("opens(2, 1, 0, 0)", 1);
        x.due("opens(3, 1, 0, 0)", 0);
        x.due("opens(4, 1, 0, 0)", NONE);
        x.due("change(1, 1, 1)", 2);
        x.due("opens(2, 1, 0, 0)", 2);

        x = DOC.test(9, "in each of which just the BOARDS of its FIGURE are FELT");
        x.locked("l3111;01,1").dancers(0, 1, 0, 1, 0, 1).cells(1, 0, 0, 1, 1, 1, 1, 1);
        x.due("opens(2, 1, 0, 0)", 0);
        x.due("put(1, 2, 2)", 1);
        x.due("opens(2, 1, 0, 0)", NONE);
        x.cells(1, 0, 0, 0, 0, 1, 1, 1);
        x.due("opens(2, 1, 0, 0)", NONE);
        x.cells(1, 0, 0, 0, 1, 1, 1, 0);
        x.due("opens(2, 1, 0, 0)", NONE);
        x.cells(1, 0, 0, 0, 1, 2, 2, 2);
        x.due("opens(2, 1, 0, 0)", NONE);

        x = DOC.test(9, "by such cells (BEATS times DANCERS); NONE.");
        x.locked("l3111;02,1;1,02;0").dancers(0, 1, 0, 1).cells(1, 1, 0, 2, 1, 1, 0, 2, 0);
        x.due("opens(2, 1, 1, 0)", 0);
        x.due("opens(2, 1, 1, 1)", NONE);
        x.due("opens(2, 1, 1, 2)", 1);
        x.due("opens(1, 1, 1, 0)", NONE);
        x.due("opens(3, 1, 1, 0)", NONE);
    }

    private static void cellsOfOpens() {
        Run x = DOC.test(9, "for each BEAT, DANCER by DANCER, a BOARD");
        x.locked("l71111111;0,1,2,3,4,5;0123,0123,0123,0123,0123,0123").dancers(0, 1, 0, 1, 0, 1, 0, 1);
        x.due("sheet(1, 0, 25)", 1);
        for (int cell = 0; cell < 24; cell++) {
            x.due("put(1, " + (cell + 1) + ", " + cell / 4 + ")", 1);
        }
        x.due("opens(6, 1, 0, 1)", 0);
        x.fault("opens(6, 1, 0, 2)", INDEX);
        for (int cell = 0; cell < 24; cell++) {
            x.due("put(1, " + cell + ", " + cell % 4 + ")", 1);
        }
        x.due("opens(6, 1, 0, 0)", 1);

        x = DOC.test(9, "by such cells (BEATS times DANCERS)");
        x.locked("l211;0;,;").cells(1, 2).cells(2, 2, 7, 7);
        x.due("opens(1, 1, 2, 0)", 2);
        x.due("opens(2, 1, 2, 0)", 1);
        x.due("opens(6, 1, 2, 0)", NONE);
        x.due("opens(2, 2, 2, 0)", 1);
        x.due("opens(2, 2, 2, 2)", 1);
        x.due("dancer(0, 1)", 0);
        x.fault("opens(1, 1, 2, 0)", INDEX);
        x.cells(2, 2, 7, 0, 0, 7);
        x.fault("opens(5, 2, 2, 0)", INDEX);
        x.due("opens(2, 2, 2, 1)", NONE);
        x.due("change(1, 1, 1)", 0);
        x.due("change(1, 0, 1)", 0);
        x.due("opens(2, 2, 2, 1)", 1);
    }

    private static void opensRefused() {
        Run x = DOC.test(9, "UNKNOWN: SHEET; OUTSIDE: sort, beats (1 .. 6)");
        x.locked("l211;;,,,,,").dancers(2, 1).cells(0, 0, 0, 0, 0, 0, 0, 0, 0).cells(3, 2, 0);
        for (String sheet : NO_SHEETS) {
            x.due("opens(1, " + sheet + ", 0, 0)", UNKNOWN);
        }
        for (String sort : NO_SORTS) {
            x.due("opens(1, 0, " + sort + ", 0)", OUTSIDE);
        }
        for (String beats : new String[] {"-1", "0", "7", "MIN", "MAX", "1073741824"}) {
            x.due("opens(" + beats + ", 0, 0, 0)", OUTSIDE);
        }
        x.due("opens(1, 0, 0, 0)", 0);
        x.due("opens(6, 0, 0, 0)", 1);
        x.due("opens(1, 3, 2, 0)", 0);

        x = DOC.test(9, "STATE: there is no LOCK");
        x.cells(1, 0).cells(2, 1, 9, 9);
        x.due("opens(1, 1, 0, 0)", STATE);
        x.due("opens(6, 2, 1, 0)", STATE);
        x.due("opens(6, 2, 1, 2)", STATE);

        x = DOC.test(9, "UNKNOWN: any of the cells is no BOARD.");
        x.locked("l3111;;,").dancers(0, 1, 1, 1).cells(1, 2, 3, 0, 1, 2, 0, -1, 0);
        x.due("opens(2, 1, 2, 0)", UNKNOWN);
        x.due("opens(2, 1, 2, 1)", NONE);
        x.due("opens(2, 1, 2, 2)", UNKNOWN);
        x.due("opens(2, 1, 2, 3)", UNKNOWN);
        x.due("opens(1, 1, 2, 4)", UNKNOWN);
        x.cells(1, 2, 0, 0, 0, 3);
        x.due("opens(2, 1, 2, 0)", UNKNOWN);
        x.due("opens(1, 1, 2, 0)", NONE);
        x.cells(1, 2, Integer.MIN_VALUE, 0, Integer.MAX_VALUE);
        x.due("opens(1, 1, 2, 0)", UNKNOWN);
        x.due("opens(1, 1, 2, 1)", UNKNOWN);
    }

    private static void opensFaults() {
        Run x = DOC.test(9, "FAULTS CAST, NULL, INDEX");
        x.locked("l211;;,").dancers(2, 1).cells(0, 0, 0).cells(1, 1, 0).cells(2, 2, 0, 0, 0);
        for (int sheet = 0; sheet < 3; sheet++) {
            for (int sort = 0; sort < 3; sort++) {
                if (sort == sheet) {
                    x.due("opens(1, " + sheet + ", " + sort + ", 0)", 0);
                } else {
                    x.fault("opens(1, " + sheet + ", " + sort + ", 0)", CAST);
                }
            }
            x.fault("opens(1, 3, " + sheet + ", 0)", NULL);
        }
        for (String i : new String[] {"-1", "3", "4", "MIN", "MAX"}) {
            x.fault("opens(1, 2, 2, " + i + ")", INDEX);
        }
        x.fault("opens(2, 2, 2, 2)", INDEX);
        x.fault("opens(6, 2, 2, MAX)", INDEX);
        x.due("opens(2, 2, 2, 1)", 1);

        x = DOC.test(9, "of cells from i on also where i is not 0 .. how many there are, if none of them is taken, too");
        x.locked("l211;").cells(1, 0, 9, 9);
        x.due("opens(1, 1, 0, 0)", 0);
        x.due("opens(1, 1, 0, 2)", 0);
        for (String i : new String[] {"-1", "3", "MIN", "MAX"}) {
            x.fault("opens(1, 1, 0, " + i + ")", INDEX);
        }
    }

    private static void opensOrder() {
        Run x = DOC.test(9, "UNKNOWN: SHEET; OUTSIDE: sort, beats (1 .. 6); FAULTS CAST, NULL, INDEX; "
            + "STATE: there is no LOCK; UNKNOWN: any of the cells is no BOARD.");
        x.cells(1, 0, 0, 1, 2, 9, 9, 9, 9);
        opensOrderOfTwo(x);
        x.due("opens(1, 4, 0, 0)", UNKNOWN);
        x.due("opens(1, 1, 3, 0)", OUTSIDE);
        x.due("opens(7, 1, 0, 0)", OUTSIDE);
        x.fault("opens(1, 1, 1, 0)", CAST);
        x.fault("opens(1, 0, 0, 0)", NULL);
        x.fault("opens(1, 1, 0, -1)", INDEX);
        x.fault("opens(1, 1, 0, 8)", INDEX);
        x.due("opens(1, 1, 0, 0)", STATE);
        x.locked("l3111;").dancers(0, 1);
        opensOrderOfTwo(x);
        x.due("opens(1, 1, 3, 3)", OUTSIDE);
        x.due("opens(7, 1, 0, 0)", OUTSIDE);
        x.fault("opens(1, 1, 1, 3)", CAST);
        x.fault("opens(2, 1, 0, 6)", INDEX);
        x.due("opens(1, 1, 0, 3)", UNKNOWN);
    }

    private static void opensOrderOfTwo(Run x) {
        x.due("opens(1, 4, 3, 0)", UNKNOWN);
        x.due("opens(0, 4, 0, 0)", UNKNOWN);
        x.due("opens(1, 4, 0, -1)", UNKNOWN);
        x.due("opens(1, 1, 3, -1)", OUTSIDE);
        x.due("opens(1, 0, 3, 0)", OUTSIDE);
        x.due("opens(0, 1, 1, 0)", OUTSIDE);
        x.due("opens(7, 0, 0, 0)", OUTSIDE);
        x.due("opens(0, 1, 0, -1)", OUTSIDE);
        x.due("opens(7, 1, 0, 8)", OUTSIDE);
        x.fault("opens(1, 1, 1, -1)", CAST);
        x.fault("opens(1, 1, 2, 8)", CAST);
        x.fault("opens(1, 0, 0, -1)", NULL);
        x.fault("opens(1, 0, 2, 1)", NULL);
    }

    private static void felt() {
        Run x = DOC.test(10, "What is FELT in the k-th BEAT of such a PLAN, as a set.");
        x.locked("l71111111;").dancers(0, 1, 0, 1).cells(1, 0, 6, 6, 0, 1, 2, 3, 4, 4, 5, 6, 0, 6, 1, 1);
        int[] want = {3, 12, 16, 96, 65, 2};
        for (int k = 0; k < 6; k++) {
            x.due("felt(6, " + k + ", 1, 0, 2)", want[k]);
        }
        x.due("felt(1, 0, 1, 0, 0)", 64);
        x.fault("felt(6, 0, 1, 0, 3)", INDEX);
        x.due("felt(5, 0, 1, 0, 3)", 6);
        x.due("leave(2)", 0);
        x.due("felt(6, 5, 1, 0, 0)", 0);
    }

    private static void feltRefused() {
        Run x = DOC.test(10, "As opens(), but OUTSIDE: sort, beats, k.");
        x.locked("l211;").dancers(0, 1).cells(0, 0, 0, 0, 0, 0, 0, 1, 0).cells(3, 2, 0).cells(2, 1, 0);
        for (String sheet : NO_SHEETS) {
            x.due("felt(1, 0, " + sheet + ", 0, 0)", UNKNOWN);
        }
        for (String sort : NO_SORTS) {
            x.due("felt(1, 0, 0, " + sort + ", 0)", OUTSIDE);
        }
        for (String beats : new String[] {"-1", "0", "7", "MIN", "MAX", "1073741824"}) {
            x.due("felt(" + beats + ", 0, 0, 0, 0)", OUTSIDE);
        }
        for (String k : new String[] {"-1", "6", "7", "MIN", "MAX"}) {
            x.due("felt(6, " + k + ", 0, 0, 0)", OUTSIDE);
        }
        x.due("felt(7, 6, 0, 0, 0)", OUTSIDE);
        x.due("felt(1, 1, 0, 0, 0)", OUTSIDE);
        x.due("felt(2, 2, 0, 0, 0)", OUTSIDE);
        x.due("felt(6, 5, 0, 0, 0)", 2);
        x.due("felt(1, 0, 3, 2, 0)", 1);
        x.fault("felt(1, 0, 0, 1, 0)", CAST);
        x.fault("felt(1, 0, 0, 2, 0)", CAST);
        x.fault("felt(1, 0, 2, 0, 0)", CAST);
        x.fault("felt(1, 0, 1, 0, 0)", NULL);
        for (String i : new String[] {"-1", "7", "8", "MIN", "MAX"}) {
            x.fault("felt(1, 0, 0, 0, " + i + ")", INDEX);
        }
        x.fault("felt(6, 0, 0, 0, 2)", INDEX);
        x.due("felt(6, 4, 0, 0, 1)", 2);

        x = DOC.test(10, "As opens()");
        x.cells(1, 0, 9);
        x.due("felt(1, 0, 1, 0, 0)", STATE);
        x.due("felt(6, 5, 1, 0, 1)", STATE);

        x = DOC.test(10, "for each BEAT, DANCER by DANCER, a BOARD");
        x.locked("l211;").dancers(0, 1, 1, 1).cells(1, 0, 0, 0, 0, 2, 0, -1);
        x.due("felt(1, 0, 1, 0, 0)", 1);
        x.due("felt(2, 0, 1, 0, 0)", UNKNOWN);
        x.due("felt(2, 1, 1, 0, 1)", UNKNOWN);
        x.due("felt(1, 0, 1, 0, 4)", UNKNOWN);
    }

    private static void feltOrder() {
        Run x = DOC.test(10, "As opens(), but OUTSIDE");
        x.cells(1, 0, 0, 1, 2, 9, 9, 9, 9);
        feltOrderOfTwo(x);
        x.due("felt(1, 0, 4, 0, 0)", UNKNOWN);
        x.due("felt(1, 0, 1, 3, 0)", OUTSIDE);
        x.due("felt(1, 1, 1, 0, 0)", OUTSIDE);
        x.fault("felt(1, 0, 1, 1, 0)", CAST);
        x.fault("felt(1, 0, 0, 0, 0)", NULL);
        x.fault("felt(1, 0, 1, 0, -1)", INDEX);
        x.fault("felt(1, 0, 1, 0, 8)", INDEX);
        x.due("felt(1, 0, 1, 0, 0)", STATE);
        x.locked("l3111;").dancers(0, 1);
        feltOrderOfTwo(x);
        x.due("felt(1, 0, 1, 3, 3)", OUTSIDE);
        x.due("felt(1, 1, 1, 0, 3)", OUTSIDE);
        x.due("felt(1, -1, 1, 0, 3)", OUTSIDE);
        x.fault("felt(1, 0, 1, 1, 3)", CAST);
        x.fault("felt(2, 0, 1, 0, 6)", INDEX);
        x.due("felt(1, 0, 1, 0, 3)", UNKNOWN);
    }

    private static void feltOrderOfTwo(Run x) {
        x.due("felt(1, 0, 4, 3, 0)", UNKNOWN);
        x.due("felt(0, 0, 4, 0, 0)", UNKNOWN);
        x.due("felt(1, 1, 4, 0, 0)", UNKNOWN);
        x.due("felt(1, 0, 4, 0, -1)", UNKNOWN);
        x.due("felt(1, 0, 1, 3, -1)", OUTSIDE);
        x.due("felt(1, 0, 0, 3, 0)", OUTSIDE);
        x.due("felt(1, 1, 1, 1, 0)", OUTSIDE);
        x.due("felt(1, -1, 0, 0, 0)", OUTSIDE);
        x.due("felt(7, 0, 0, 0, 0)", OUTSIDE);
        x.due("felt(7, 0, 1, 1, 0)", OUTSIDE);
        x.due("felt(0, 0, 1, 0, -1)", OUTSIDE);
        x.due("felt(1, 1, 1, 0, -1)", OUTSIDE);
        x.fault("felt(1, 0, 1, 1, -1)", CAST);
        x.fault("felt(1, 0, 0, 0, -1)", NULL);
    }

    private static void wrong() {
        Run x = DOC.test(11, "The first BEAT of a DOOR that is danced otherwise");
        x.locked("l3111;0,1,2,0,1,2;0,1,2,0,1,1;0,1,1,0,1,1;1,1,2,0,1,2").dancers(0, 1).cells(1, 0, 0, 1, 2, 0, 1, 2, 0);
        x.due("wrong(0, 1, 0, 0)", NONE);
        x.due("wrong(1, 1, 0, 0)", 5);
        x.due("wrong(2, 1, 0, 0)", 2);
        x.due("wrong(3, 1, 0, 0)", 0);
        x.due("wrong(0, 1, 0, 1)", 0);

        x = DOC.test(11, "by such a PLAN of as many BEATS as it has; NONE.");
        x.locked("l3111;0;0,1,2;0,1").dancers(0, 1, 0, 1).cells(1, 0, 0, 0, 1, 1);
        x.due("wrong(0, 1, 0, 0)", NONE);
        x.due("wrong(0, 1, 0, 2)", 0);
        x.fault("wrong(0, 1, 0, 3)", INDEX);
        x.fault("wrong(1, 1, 0, 0)", INDEX);
        x.due("wrong(2, 1, 0, 0)", NONE);
        x.fault("wrong(2, 1, 0, 1)", INDEX);
        x.due("put(1, 2, 9)", 1);
        x.due("wrong(0, 1, 0, 0)", NONE);
        x.due("wrong(2, 1, 0, 0)", UNKNOWN);
        x.due("leave(2)", 0);
        x.due("wrong(1, 1, 0, 4)", 0);
        x.fault("wrong(1, 1, 0, 5)", INDEX);
        x.fault("wrong(1, 1, 0, -1)", INDEX);
        x.due("change(0, 0, 0)", 1);
        x.due("wrong(0, 1, 0, 0)", NONE);
    }

    private static void wrongRefused() {
        Run x = DOC.test(11, "UNKNOWN: DOOR, SHEET; OUTSIDE: sort");
        x.cells(0, 0, 0).cells(3, 2, 1);
        x.due("wrong(0, 0, 0, 0)", UNKNOWN);
        x.locked("l211;0;0;0;0").locked("l211;0;0").dancers(0, 1).cells(3, 2, 1);
        for (String door : new String[] {"-1", "2", "3", "4", "MIN", "MAX"}) {
            x.due("wrong(" + door + ", 0, 0, 0)", UNKNOWN);
        }
        for (String sheet : NO_SHEETS) {
            x.due("wrong(0, " + sheet + ", 0, 0)", UNKNOWN);
        }
        for (String sort : NO_SORTS) {
            x.due("wrong(0, 0, " + sort + ", 0)", OUTSIDE);
        }
        x.due("wrong(1, 0, 0, 0)", NONE);
        x.due("wrong(1, 3, 2, 0)", 0);

        x = DOC.test(11, "FAULTS CAST, NULL, INDEX");
        x.locked("l211;0").dancers(0, 1).cells(0, 0, 0).cells(1, 1, 0).cells(2, 2, 0, 1, 0);
        for (int sheet = 0; sheet < 3; sheet++) {
            for (int sort = 0; sort < 3; sort++) {
                if (sort == sheet) {
                    x.due("wrong(0, " + sheet + ", " + sort + ", 0)", NONE);
                } else {
                    x.fault("wrong(0, " + sheet + ", " + sort + ", 0)", CAST);
                }
            }
            x.fault("wrong(0, 3, " + sheet + ", 0)", NULL);
        }
        for (String i : new String[] {"-1", "3", "4", "MIN", "MAX"}) {
            x.fault("wrong(0, 2, 2, " + i + ")", INDEX);
        }
        x.due("wrong(0, 2, 2, 2)", NONE);

        x = DOC.test(11, "UNKNOWN: any of the cells is no BOARD");
        x.locked("l3111;0,1;0").dancers(0, 1, 1, 1).cells(1, 2, 0, 0, 1, 3, -1, 0);
        x.due("wrong(0, 1, 2, 0)", UNKNOWN);
        x.due("wrong(0, 1, 2, 2)", UNKNOWN);
        x.due("wrong(1, 1, 2, 0)", NONE);
        x.due("wrong(1, 1, 2, 1)", 0);
        x.due("wrong(1, 1, 2, 4)", UNKNOWN);
    }

    private static void wrongOrder() {
        Run x = DOC.test(11, "UNKNOWN: DOOR, SHEET; OUTSIDE: sort; FAULTS CAST, NULL, INDEX; "
            + "UNKNOWN: any of the cells is no BOARD.");
        x.locked("l211;0,0").dancers(0, 1).cells(1, 0, 0, 1, 9, 9);
        x.due("wrong(1, 1, 3, 0)", UNKNOWN);
        x.due("wrong(1, 1, 1, 0)", UNKNOWN);
        x.due("wrong(1, 0, 0, 0)", UNKNOWN);
        x.due("wrong(1, 1, 0, -1)", UNKNOWN);
        x.due("wrong(1, 1, 0, 4)", UNKNOWN);
        x.due("wrong(0, 4, 3, 0)", UNKNOWN);
        x.due("wrong(0, 4, 0, -1)", UNKNOWN);
        x.due("wrong(0, 1, 3, 2)", OUTSIDE);
        x.due("wrong(0, 0, 3, 0)", OUTSIDE);
        x.due("wrong(0, 1, -1, -1)", OUTSIDE);
        x.fault("wrong(0, 1, 1, -1)", CAST);
        x.fault("wrong(0, 1, 1, 2)", CAST);
        x.fault("wrong(0, 1, 2, 4)", CAST);
        x.fault("wrong(0, 0, 0, -1)", NULL);
        x.fault("wrong(0, 1, 0, 3)", INDEX);
        x.due("wrong(0, 1, 0, 2)", UNKNOWN);
    }
}
