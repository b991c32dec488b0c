/** Promises 21 to 25, sentence by sentence: seen, part, apart, nearest, safe. */
public final class SeenSentencesTest implements Numbers {
    private static final Sentences DOC = new Sentences();
    private static final String[] NO_SHEETS = {"-1", "4", "MIN", "MAX"};
    private static final String[] NO_SORTS = {"-1", "3", "MIN", "MAX"};
    private static final String[] NO_DOORS = {"-1", "2", "3", "4", "MIN", "MAX"};

    public static void main(String[] args) {
        seen();
        seenRefused();
        seenFaults();
        seenOrder();
        part();
        partRefused();
        partFaults();
        partOrder();
        apart();
        nearest();
        safe();
        DOC.end(21, 22, 23, 24, 25);
    }

    private static void seen() {
        Run x = DOC.test(21, "DOORS of as many BEATS in which just these of them are FELT, as a set");
        x.locked("l41111;01,2;0,23;0,2;01").cells(1, 2, 1, 4, 3);
        x.due("seen(5, 1, 2, 0, 2)", 7);
        x.due("seen(7, 1, 2, 0, 2)", 6);
        x.due("seen(13, 1, 2, 0, 2)", 5);
        x.due("seen(15, 1, 2, 0, 2)", 4);
        x.due("seen(3, 1, 2, 2, 1)", 8);
        x.due("seen(15, 1, 2, 2, 1)", 8);
        x.due("seen(15, 1, 2, 0, 1)", 0);
        x.due("seen(1, 1, 2, 0, 1)", 8);
        x.due("seen(15, 1, 2, 0, 3)", 0);

        x = DOC.test(21, "of some BOARDS (a set) it was seen which were FELT, BEAT by BEAT (sets)");
        x.locked("l71111111;0,1,2,3,4,5;6,6,6,6,6,6;,,,,;0,1,2,3,4").cells(1, 0, 1, 2, 4, 8, 16, 32);
        x.due("seen(63, 1, 0, 0, 6)", 1);
        x.due("seen(127, 1, 0, 0, 6)", 1);
        x.due("seen(31, 1, 0, 0, 5)", 8);
        x.due("seen(127, 1, 0, 0, 5)", 8);
        x.due("seen(127, 1, 0, 0, 4)", 0);
        x.due("sheet(2, 1, 80)", 1);
        x.due("seen(0, 2, 1, 0, 6)", 3);
        x.due("seen(0, 2, 1, 75, 5)", 12);
        x.due("seen(31, 2, 1, 0, 5)", 4);
        x.due("seen(63, 2, 1, 0, 6)", 2);
        x.due("seen(127, 2, 1, 0, 6)", 0);
        x.due("seen(0, 2, 1, 0, 7)", 0);
        x.due("seen(0, 2, 1, 0, 80)", 0);
        x.due("seen(0, 2, 1, 0, 0)", 0);
        x.due("seen(0, 2, 1, 80, 0)", 0);
        x.due("lose(2)", 1);
    }

    private static void seenRefused() {
        Run x = DOC.test(21, "UNKNOWN: SHEET; OUTSIDE: sort, a bit of no BOARD");
        x.locked("l3111;01").cells(0, 0, 3).cells(3, 2, 3);
        for (String sheet : NO_SHEETS) {
            x.due("seen(3, " + sheet + ", 0, 0, 1)", UNKNOWN);
        }
        for (String sort : NO_SORTS) {
            x.due("seen(3, 0, " + sort + ", 0, 1)", OUTSIDE);
        }
        for (String boards : new String[] {"8", "15", "-1", "MIN", "MAX", "128"}) {
            x.due("seen(" + boards + ", 0, 0, 0, 1)", OUTSIDE);
        }
        x.due("seen(7, 0, 0, 0, 1)", 1);
        x.due("seen(7, 3, 2, 0, 1)", 1);

        x = DOC.test(21, "STATE: there is no LOCK");
        x.cells(1, 1, 0, 0);
        x.due("seen(0, 1, 1, 0, 1)", STATE);
        x.due("seen(0, 1, 1, 0, 0)", STATE);
        x.due("seen(0, 1, 1, 2, 0)", STATE);

        x = DOC.test(21, "OUTSIDE: a cell has a bit that is not of the BOARDS.");
        x.locked("l41111;01,2").cells(1, 1, 8, 3, 4, -1, Short.MIN_VALUE, 16);
        x.due("seen(7, 1, 1, 0, 2)", OUTSIDE);
        x.due("seen(7, 1, 1, 1, 2)", 1);
        x.due("seen(3, 1, 1, 1, 2)", OUTSIDE);
        x.due("seen(5, 1, 1, 1, 2)", OUTSIDE);
        x.due("seen(15, 1, 1, 0, 2)", 0);
        x.due("seen(15, 1, 1, 2, 2)", OUTSIDE);
        x.due("seen(15, 1, 1, 4, 1)", OUTSIDE);
        x.due("seen(15, 1, 1, 5, 1)", OUTSIDE);
        x.due("seen(7, 1, 1, 1, 3)", OUTSIDE);
        x.due("seen(0, 1, 1, 2, 1)", OUTSIDE);
    }

    private static void seenFaults() {
        Run x = DOC.test(21, "FAULTS CAST, NULL, SIZE, INDEX");
        x.locked("l211;0").cells(0, 0, 1).cells(1, 1, 1).cells(2, 2, 0, 1, 1);
        for (int sheet = 0; sheet < 3; sheet++) {
            for (int sort = 0; sort < 3; sort++) {
                if (sort == sheet) {
                    x.due("seen(3, " + sheet + ", " + sort + ", " + sheet / 2 + ", 1)", 1);
                } else {
                    x.fault("seen(3, " + sheet + ", " + sort + ", 0, 1)", CAST);
                }
            }
            x.fault("seen(3, 3, " + sheet + ", 0, 1)", NULL);
        }
        x.fault("seen(3, 2, 2, 0, -1)", SIZE);
        x.fault("seen(3, 2, 2, 3, MIN)", SIZE);
        for (String i : new String[] {"-1", "3", "4", "MIN", "MAX"}) {
            x.fault("seen(3, 2, 2, " + i + ", 1)", INDEX);
        }
        x.fault("seen(3, 2, 2, 0, 4)", INDEX);
        x.fault("seen(3, 2, 2, 1, MAX)", INDEX);
        x.due("seen(3, 2, 2, 2, 1)", 1);

        x = DOC.test(21, "of cells from i on also where i is not 0 .. how many there are, if none of them is taken, too");
        x.locked("l211;").cells(1, 0, 9, 9);
        for (String i : new String[] {"-1", "3", "MIN", "MAX"}) {
            x.fault("seen(3, 1, 0, " + i + ", 0)", INDEX);
        }
        x.due("seen(3, 1, 0, 2, 0)", 0);
        x.due("seen(3, 1, 0, 0, 0)", 0);
    }

    private static void seenOrder() {
        Run x = DOC.test(21, "UNKNOWN: SHEET; OUTSIDE: sort, a bit of no BOARD; FAULTS CAST, NULL, SIZE, INDEX; "
            + "STATE: there is no LOCK; OUTSIDE: a cell has a bit that is not of the BOARDS.");
        x.cells(1, 0, 9, 9, 9);
        x.due("seen(0, 4, 0, 0, 1)", UNKNOWN);
        x.due("seen(0, 1, 3, 0, 1)", OUTSIDE);
        x.due("seen(1, 1, 0, 0, 1)", OUTSIDE);
        x.fault("seen(0, 1, 1, 0, 1)", CAST);
        x.fault("seen(0, 0, 0, 0, 1)", NULL);
        x.fault("seen(0, 1, 0, 0, -1)", SIZE);
        x.fault("seen(0, 1, 0, 0, 4)", INDEX);
        x.due("seen(0, 1, 0, 0, 3)", STATE);
        x.locked("l3111;");
        x.due("seen(0, 4, 3, 0, 1)", UNKNOWN);
        x.due("seen(8, 4, 0, 0, 1)", UNKNOWN);
        x.due("seen(0, 4, 0, 0, -1)", UNKNOWN);
        x.due("seen(0, 4, 0, -1, 1)", UNKNOWN);
        x.due("seen(0, 0, 3, 0, 1)", OUTSIDE);
        x.due("seen(0, 1, 3, 0, -1)", OUTSIDE);
        x.due("seen(0, 1, 3, -1, 1)", OUTSIDE);
        x.due("seen(8, 0, 0, 0, 1)", OUTSIDE);
        x.due("seen(8, 1, 1, 0, 1)", OUTSIDE);
        x.due("seen(8, 1, 0, 0, -1)", OUTSIDE);
        x.due("seen(8, 1, 0, -1, 1)", OUTSIDE);
        x.fault("seen(7, 1, 1, 0, -1)", CAST);
        x.fault("seen(7, 1, 1, -1, 1)", CAST);
        x.fault("seen(7, 1, 2, 0, 1)", CAST);
        x.fault("seen(7, 0, 0, 0, -1)", NULL);
        x.fault("seen(7, 0, 0, -1, 1)", NULL);
        x.fault("seen(7, 1, 0, -1, -1)", SIZE);
        x.fault("seen(7, 1, 0, 4, -1)", SIZE);
        x.fault("seen(7, 1, 0, 0, 4)", INDEX);
        x.due("seen(7, 1, 0, 0, 3)", OUTSIDE);
    }

    private static void part() {
        Run x = DOC.test(22, "DOORS in whose FIGURE it stands as BEATS on end, as a set");
        x.locked("l3111;0,1,2,0,1,12;2,0,1;1,0,2;1").cells(1, 0, 1, 2, 6, 2, 4, 1, 2);
        x.due("part(1, 0, 0, 1)", 7);
        x.due("part(1, 0, 1, 1)", 15);
        x.due("part(1, 0, 0, 2)", 3);
        x.due("part(1, 0, 0, 3)", 1);
        x.due("part(1, 0, 2, 1)", 1);
        x.due("part(1, 0, 4, 3)", 3);
        x.due("part(1, 0, 3, 2)", 1);
        x.due("part(1, 0, 4, 1)", 7);
        x.due("part(1, 0, 2, 2)", 0);
        x.due("part(1, 0, 0, 7)", 0);
        x.due("change(0, 5, 0)", 6);
        x.due("part(1, 0, 2, 1)", 0);

        x = DOC.test(22, "A PART of sets: DOORS in whose FIGURE it stands");
        x.locked("l3111;0,1,2,0,1,2;0,1;;,").cells(1, 0, 1, 2, 4, 1, 2, 4, 1, 2);
        x.due("part(1, 0, 0, 6)", 1);
        x.due("part(1, 0, 0, 7)", 0);
        x.due("part(1, 0, 0, 8)", 0);
        x.due("part(1, 0, 6, 2)", 3);
        x.due("part(1, 0, 5, 2)", 1);
        x.due("part(1, 0, 5, 3)", 1);
        x.due("put(1, 6, 2)", 1);
        x.due("part(1, 0, 5, 2)", 0);
        x.due("sheet(2, 2, 80)", 1);
        x.due("part(2, 2, 0, 1)", 12);
        x.due("part(2, 2, 0, 2)", 8);
        x.due("part(2, 2, 0, 3)", 0);
        x.due("part(2, 2, 0, 80)", 0);
        x.due("part(2, 2, 78, 2)", 8);
        x.due("lose(2)", 1);
    }

    private static void partRefused() {
        Run x = DOC.test(22, "UNKNOWN: SHEET; OUTSIDE: sort");
        x.locked("l211;01").cells(0, 0, 3).cells(3, 2, 3);
        for (String sheet : NO_SHEETS) {
            x.due("part(" + sheet + ", 0, 0, 1)", UNKNOWN);
        }
        for (String sort : NO_SORTS) {
            x.due("part(0, " + sort + ", 0, 1)", OUTSIDE);
        }
        x.due("part(0, 0, 0, 1)", 1);
        x.due("part(3, 2, 0, 1)", 1);

        x = DOC.test(22, "STATE: there is no LOCK");
        x.cells(1, 1, 0, 0);
        x.due("part(1, 1, 0, 1)", STATE);
        x.due("part(1, 1, 0, 2)", STATE);

        x = DOC.test(22, "OUTSIDE: n is 0");
        x.locked("l211;;,").cells(1, 1, 0, 0);
        x.due("part(1, 1, 0, 0)", OUTSIDE);
        x.due("part(1, 1, 2, 0)", OUTSIDE);
        x.due("part(1, 1, 0, 1)", 3);
        x.due("sheet(1, 1, 0)", 1);
        x.due("part(1, 1, 0, 0)", OUTSIDE);

        x = DOC.test(22, "a cell has a bit of no BOARD");
        x.locked("l3111;012,0").cells(1, 2, 8, 7, 1, -1, Integer.MIN_VALUE, 9);
        x.due("part(1, 2, 0, 1)", OUTSIDE);
        x.due("part(1, 2, 1, 1)", 1);
        x.due("part(1, 2, 1, 2)", 1);
        x.due("part(1, 2, 0, 3)", OUTSIDE);
        x.due("part(1, 2, 1, 3)", OUTSIDE);
        x.due("part(1, 2, 3, 1)", OUTSIDE);
        x.due("part(1, 2, 4, 1)", OUTSIDE);
        x.due("part(1, 2, 5, 1)", OUTSIDE);
        x.due("sheet(1, 2, 80)", 1);
        x.due("put(1, 79, 8)", 1);
        x.due("part(1, 2, 0, 80)", OUTSIDE);
        x.due("part(1, 2, 0, 79)", 0);
        x.due("lose(1)", 1);
    }

    private static void partFaults() {
        Run x = DOC.test(22, "FAULTS CAST, NULL, SIZE, INDEX");
        x.locked("l211;0").cells(0, 0, 1).cells(1, 1, 1).cells(2, 2, 0, 1, 1);
        for (int sheet = 0; sheet < 3; sheet++) {
            for (int sort = 0; sort < 3; sort++) {
                if (sort == sheet) {
                    x.due("part(" + sheet + ", " + sort + ", " + sheet / 2 + ", 1)", 1);
                } else {
                    x.fault("part(" + sheet + ", " + sort + ", 0, 1)", CAST);
                }
            }
            x.fault("part(3, " + sheet + ", 0, 1)", NULL);
        }
        x.fault("part(2, 2, 0, -1)", SIZE);
        x.fault("part(2, 2, 3, MIN)", SIZE);
        for (String i : new String[] {"-1", "3", "4", "MIN", "MAX"}) {
            x.fault("part(2, 2, " + i + ", 1)", INDEX);
        }
        x.fault("part(2, 2, 0, 4)", INDEX);
        x.fault("part(2, 2, 1, MAX)", INDEX);
        x.due("part(2, 2, 2, 1)", 1);

        x = DOC.test(22, "of cells from i on also where i is not 0 .. how many there are, if none of them is taken, too");
        x.locked("l211;").cells(1, 0, 9, 9);
        for (String i : new String[] {"-1", "3", "MIN", "MAX"}) {
            x.fault("part(1, 0, " + i + ", 0)", INDEX);
        }
        x.due("part(1, 0, 2, 0)", OUTSIDE);
        x.due("part(1, 0, 0, 0)", OUTSIDE);
    }

    private static void partOrder() {
        Run x = DOC.test(22, "UNKNOWN: SHEET; OUTSIDE: sort; FAULTS CAST, NULL, SIZE, INDEX; STATE: there is no LOCK; "
            + "OUTSIDE: n is 0, a cell has a bit of no BOARD.");
        x.cells(1, 0, 9, 9, 9);
        x.due("part(4, 0, 0, 1)", UNKNOWN);
        x.due("part(1, 3, 0, 1)", OUTSIDE);
        x.fault("part(1, 1, 0, 1)", CAST);
        x.fault("part(0, 0, 0, 1)", NULL);
        x.fault("part(1, 0, 0, -1)", SIZE);
        x.fault("part(1, 0, 0, 4)", INDEX);
        x.due("part(1, 0, 0, 3)", STATE);
        x.due("part(1, 0, 0, 0)", STATE);
        x.locked("l3111;");
        x.due("part(4, 3, 0, 1)", UNKNOWN);
        x.due("part(4, 0, 0, -1)", UNKNOWN);
        x.due("part(4, 0, -1, 1)", UNKNOWN);
        x.due("part(4, 0, 0, 0)", UNKNOWN);
        x.due("part(0, 3, 0, 1)", OUTSIDE);
        x.due("part(1, 3, 0, -1)", OUTSIDE);
        x.due("part(1, 3, -1, 1)", OUTSIDE);
        x.fault("part(1, 1, 0, -1)", CAST);
        x.fault("part(1, 1, -1, 1)", CAST);
        x.fault("part(1, 1, 0, 0)", CAST);
        x.fault("part(1, 2, 0, 1)", CAST);
        x.fault("part(0, 0, 0, -1)", NULL);
        x.fault("part(0, 0, -1, 1)", NULL);
        x.fault("part(0, 0, 0, 0)", NULL);
        x.fault("part(1, 0, -1, -1)", SIZE);
        x.fault("part(1, 0, 4, -1)", SIZE);
        x.fault("part(1, 0, 0, 4)", INDEX);
        x.fault("part(1, 0, 4, 0)", INDEX);
        x.due("part(1, 0, 0, 3)", OUTSIDE);
    }

    private static void apart() {
        Run x = DOC.test(23, "in how many BEATS two DOORS are unlike (those that one has more, too)");
        x.locked("l3111;0,1,2;0,1,12;0,1,2,,,;1");
        int[][] want = {{0, 1, 3, 3}, {1, 0, 4, 3}, {3, 4, 0, 6}, {3, 3, 6, 0}};
        for (int door = 0; door < 4; door++) {
            for (int other = 0; other < 4; other++) {
                x.due("apart(" + door + ", " + other + ")", want[door][other]);
            }
        }
        x.due("change(3, 0, 1)", 2);
        x.due("apart(3, 2)", 5);
        x.due("change(1, 2, 4)", 6);
        x.due("apart(0, 1)", 0);

        x = DOC.test(23, "APART. UNKNOWN.");
        x.due("apart(0, 0)", UNKNOWN);
        x.locked("l211;;;;").locked("l211;;0");
        for (String door : NO_DOORS) {
            x.due("apart(" + door + ", 0)", UNKNOWN);
            x.due("apart(1, " + door + ")", UNKNOWN);
            x.due("apart(" + door + ", " + door + ")", UNKNOWN);
        }
        x.due("apart(1, 0)", 1);
    }

    private static void nearest() {
        Run x = DOC.test(24, "the other DOOR that is the least APART; of several the least");
        x.locked("l3111;0,1;0,2;0,1,2;0,0");
        x.due("nearest(0)", 1);
        x.due("nearest(1)", 0);
        x.due("nearest(2)", 0);
        x.due("nearest(3)", 0);
        x.due("change(3, 1, 4)", 1);
        x.due("nearest(1)", 3);
        x.due("nearest(3)", 1);
        x.due("nearest(0)", 1);
        x.locked("l211;0,0,0,0,0,0;;1,1,1,1,1,1");
        x.due("nearest(0)", 1);
        x.due("nearest(1)", 0);
        x.due("nearest(2)", 0);
        x.locked("l211;;;;");
        x.due("nearest(0)", 1);
        x.due("nearest(3)", 0);

        x = DOC.test(24, "NONE: there is no other");
        x.locked("l211;;;;").locked("l211;");
        x.due("nearest(0)", NONE);
        x.locked("l211;0,0,0,0,0,0;1,1,1,1,1,1");
        x.due("nearest(0)", 1);
        x.due("nearest(1)", 0);

        x = DOC.test(24, "NEAREST; NONE. UNKNOWN.");
        x.due("nearest(0)", UNKNOWN);
        x.locked("l211;;;;").locked("l211;;");
        for (String door : NO_DOORS) {
            x.due("nearest(" + door + ")", UNKNOWN);
        }
        x.locked("l211;");
        x.due("nearest(1)", UNKNOWN);
    }

    private static void safe() {
        Run x = DOC.test(25, "no DOOR's FIGURE is that of another one, or how another one's begins");
        safeIs(x, "l211;0", 1);
        safeIs(x, "l211;0,0,0,0,0,0", 1);
        safeIs(x, "l211;0,1;0,0", 1);
        safeIs(x, "l211;0,1;0,1", 0);
        safeIs(x, "l211;0,1;0,1,", 0);
        safeIs(x, "l211;0,1,;0,1", 0);
        safeIs(x, "l211;0,1;0,01", 1);
        safeIs(x, "l211;0,1,1;1", 1);
        safeIs(x, "l211;;,", 0);
        safeIs(x, "l211;1;0;01;1,1", 0);
        safeIs(x, "l211;,1,1;0;01;,1", 0);
        safeIs(x, "l211;1;0;01;,1", 1);
        safeIs(x, "l211;0,1,0,1,0,1;0,1,0,1,0,0", 1);
        safeIs(x, "l211;0,1,0,1,0,1;0,1,0,1,0,1", 0);
        safeIs(x, "l211;0,1;1;0,0;1,1", 0);

        x = DOC.test(25, "SAFE (1, 0).");
        x.locked("l211;0,1;0,0");
        x.due("safe()", 1);
        x.due("change(0, 1, 1)", 2);
        x.due("safe()", 0);
        x.due("change(1, 0, 0)", 1);
        x.due("safe()", 1);

        x = DOC.test(25, "SAFE (1, 0). STATE: there is no LOCK.");
        x.due("safe()", STATE);
        x.text("l211", -104);
        x.due("safe()", STATE);
        x.text("l211;", 1);
        x.due("safe()", 1);
    }

    private static void safeIs(Run x, String text, int want) {
        x.locked(text);
        x.due("safe()", want);
    }
}
