/** Promises 1 to 5 and 37, sentence by sentence: a new object, lock, board, beat, change, many. */
public final class LockSentencesTest implements Numbers {
    private static final Sentences DOC = new Sentences();

    public static void main(String[] args) {
        newObject();
        boardsOfTexts();
        doorsOfTexts();
        firstFaults();
        codesOfTexts();
        lockMakesAnew();
        lockTakesCells();
        lockRefused();
        lockFaults();
        lockOrder();
        board();
        beat();
        change();
        changeRefused();
        many();
        DOC.end(1, 2, 3, 4, 5, 37);
    }

    private static void newObject() {
        Run x = DOC.test(1, "No LOCK (no BOARDS, DOORS)");
        x.due("many(0)", 0);
        x.due("many(1)", 0);
        x.due("board(0)", UNKNOWN);
        x.due("beat(0, -1)", UNKNOWN);
        x.due("change(0, 0, 0)", UNKNOWN);
        x.due("dancer(0, 1)", STATE);
        x.due("family(0)", STATE);
        x.due("safe()", STATE);

        x = DOC.test(1, "SHEETS have nothing.");
        for (int k = 0; k < 4; k++) {
            x.fault("put(" + k + ", 0, 0)", NULL);
            x.due("lose(" + k + ")", 0);
        }

        x = DOC.test(1, "An object is used for at most 512 calls after it has been made");
        x.locked("l211;0,1").dancers(0, 1);
        x.dueToTheLast("plan(0, 1, 0)", 1);
    }

    private static void boardsOfTexts() {
        Run x = DOC.test(2, "l, a digit 2 .. 7 (BOARDS n, numbered from 0 on)");
        x.text("k211;", -100);
        x.text("l0", -101);
        x.text("l11;", -101);
        x.text("l811111111;", -101);
        x.text("l9", -101);
        x.text("ll", -101);
        x.due("many(0)", 0);
        x.text("l219;", 1);
        x.due("many(0)", 2);
        x.due("board(1)", 9);
        x.text("l71234567;", 1);
        x.due("many(0)", 7);
        x.due("board(0)", 1);
        x.due("board(6)", 7);

        x = DOC.test(2, "n digits 1 .. 9 (from how much weight on a BOARD is FELT)");
        x.text("l201;", -102);
        x.text("l210;", -103);
        x.text("l2:1;", -102);
        x.text("l21:;", -103);
        x.text("l2;", -102);
        x.text("l21;", -103);
        x.text("l2111;", -104);
        x.text("l7111111;", -108);
        x.text("l711111111", -109);
        x.text("l219;", 1);
        x.text("l791919191;", -109);
        x.text("l79191919;", 1);
    }

    private static void doorsOfTexts() {
        Run x = DOC.test(2, "then 1 to 4 DOORS, numbered from 0 on");
        x.text("l211", -104);
        x.text("l211;0", 1);
        x.due("beat(0, 0)", 1);
        x.due("beat(1, 0)", UNKNOWN);
        x.text("l211;0;1;01;", 4);
        x.due("beat(0, 0)", 1);
        x.due("beat(1, 0)", 2);
        x.due("beat(2, 0)", 3);
        x.due("beat(3, 0)", 0);
        x.due("beat(4, 0)", UNKNOWN);

        x = DOC.test(2, "each: ; and its FIGURE");
        x.text("l211,", -104);
        x.text("l2110", -104);
        x.text("l2110;", -104);
        x.text("l211l", -104);
        x.text("l211;0l", -106);
        x.text("l211; 0", -105);
        x.text("l211;0", 1);

        x = DOC.test(2, "1 to 6 BEATS with , between");
        x.text("l211;", 1);
        x.due("beat(0, -1)", 1);
        x.text("l211;,,,,,", 1);
        x.due("beat(0, -1)", 6);
        x.text("l211;0,1,01,,1,0;1", 2);
        x.due("beat(0, -1)", 6);
        x.due("beat(0, 2)", 3);
        x.due("beat(0, 3)", 0);
        x.due("beat(0, 5)", 1);
        x.due("beat(1, -1)", 1);
        x.due("beat(1, 0)", 2);

        x = DOC.test(2, "each 0 to 4 digits of BOARDS that rise (those that are to be FELT in it)");
        x.text("l71111111;,0,01,012,0123;3456", 2);
        x.due("beat(0, 0)", 0);
        x.due("beat(0, 1)", 1);
        x.due("beat(0, 2)", 3);
        x.due("beat(0, 3)", 7);
        x.due("beat(0, 4)", 15);
        x.due("beat(1, 0)", 120);
        x.text("l211;2", -105);
        x.text("l211;0,2", -107);
        x.text("l211;9", -105);
        x.text("l71111111;7", -110);
        x.text("l71111111;6", 1);
    }

    private static void firstFaults() {
        Run x = DOC.test(2, "the place (from 0 on) of the first code with which no TEXT goes on");
        x.text("x999", -100);
        x.text("l100;9", -101);
        x.text("l200", -102);
        x.text("l211;2;;;;;", -105);
        x.text("l211;0;00;2", -108);
        x.text("l211;,,,,,,;;;;", -110);

        x = DOC.test(2, "a fifth digit");
        x.text("l71111111;01234", -114);
        x.text("l71111111;01233", -114);
        x.text("l71111111;0,23456", -116);
        x.text("l71111111;;23456", -115);
        x.text("l71111111;0123,4;5", 2);

        x = DOC.test(2, "one that does not rise");
        x.text("l211;00", -106);
        x.text("l211;10", -106);
        x.text("l41111;020", -109);
        x.text("l41111;0121", -110);
        x.text("l41111;1,11", -110);
        x.text("l41111;1,1;10", -112);
        x.text("l41111;3,2,1;0", 2);

        x = DOC.test(2, "the , of a seventh BEAT");
        x.text("l211;,,,,,,", -110);
        x.text("l211;0,0,0,0,0,0,0", -116);
        x.text("l211;,;,,,,,,", -112);
        x.text("l211;;;;,,,,,,", -113);
        x.text("l211;,,,,,;,,,,,", 2);

        x = DOC.test(2, "the ; of a fifth DOOR");
        x.text("l211;;;;;", -108);
        x.text("l211;0;0;0;0;0", -112);
        x.text("l211;,,,,,;;;,;", -114);
        x.text("l211;;;;,", 4);

        x = DOC.test(2, "how many codes there are, if it just ends too soon");
        x.due("sheet(1, 0, 0)", 1);
        x.due("lock(1, 0, 0, 0)", -100);
        x.text("l", -101);
        x.text("l7", -102);
        x.text("l71", -103);
        x.text("l711111", -107);
        x.text("l711111111".substring(0, 9), -109);
        x.text("l71111111;", 1);
        for (int n = 0; n < 9; n++) {
            x.due("lock(0, 2, 0, " + n + ")", -100 - n);
        }
    }

    private static void codesOfTexts() {
        Run x = DOC.test(2, "Codes: l 108, ; 59, a comma 44, digits 48 .. 57.");
        x.codes("codes", 1, 108, 50, 49, 57, 59, 48, 44, 49);
        x.due("board(1)", 9);
        x.due("beat(0, -1)", 2);
        for (int not : new int[] {107, 109, 76, 0, -108, 108 + 256, 108 + 65536, Integer.MIN_VALUE}) {
            x.codes("no l: " + not, -100, not, 50, 49, 57, 59);
        }
        for (int not : new int[] {58, 60, 59 + 256, -59, Integer.MAX_VALUE}) {
            x.codes("no ; " + not, -104, 108, 50, 49, 57, not);
        }
        for (int not : new int[] {43, 45, 44 + 256, -44}) {
            x.codes("no , " + not, -106, 108, 50, 49, 57, 59, 48, not);
        }

        x = DOC.test(2, "digits 48 .. 57");
        for (int not : new int[] {47, 58, 50 + 256, 50 - 256, 2, Integer.MIN_VALUE, Integer.MAX_VALUE}) {
            x.codes("no digit of a TEXT's BOARDS: " + not, -101, 108, not, 49, 57, 59);
            x.codes("no digit of a weight: " + not, -102, 108, 50, not, 57, 59);
            x.codes("no digit of a BEAT: " + not, -105, 108, 50, 49, 57, 59, not);
        }
    }

    private static void lockMakesAnew() {
        Run x = DOC.test(2, "A TEXT that is taken makes all anew, but for the SHEETS and TRACE: no DANCERS, no FAMILIES.");
        x.locked("l3123;0,1;2").dancers(0, 5, 2, 7).families(3, 64).cells(2, 1, 300, -300);
        x.due("change(0, 0, 6)", 1);
        x.due("lead(1)", 60);
        x.text("l298;1", 1);
        x.due("many(0)", 2);
        x.due("many(1)", 1);
        x.due("many(2)", 0);
        x.due("many(3)", 0);
        x.due("board(0)", 9);
        x.due("board(2)", UNKNOWN);
        x.due("beat(0, -1)", 1);
        x.due("beat(0, 0)", 2);
        x.due("beat(1, 0)", UNKNOWN);
        x.due("ofDancer(0, 0)", UNKNOWN);
        x.due("knows(0)", UNKNOWN);
        x.due("trace()", 5);
        x.sheetIs(2, 1, 300, -300);
        x.sheetIs(0, 2, 108, 50, 57, 56, 59, 49);
        x.due("dancer(1, 1)", 0);
        x.due("family(1)", 0);
        x.due("change(0, 0, 1)", 2);
        x.due("lock(0, 2, 0, 6)", 1);
        x.due("beat(0, 0)", 2);
        x.due("many(2)", 0);
        x.due("many(3)", 0);

        x = DOC.test(2, "-100 less the FIRST FAULT.");
        x.locked("l3123;0,1;2").dancers(0, 5, 2, 7).families(3, 64);
        x.due("lead(1)", 60);
        x.text("l298;2", -105);
        x.text("l298", -104);
        x.text("", -100);
        x.due("many(0)", 3);
        x.due("many(1)", 2);
        x.due("many(2)", 2);
        x.due("many(3)", 2);
        x.due("board(0)", 1);
        x.due("beat(0, -1)", 2);
    }

    private static void lockTakesCells() {
        Run x = DOC.test(2, "A LOCK by a TEXT of n cells of a SHEET from i on");
        x.cells(1, 0, ';', 'l', '2', '1', '9', ';', '0', ';', '2');
        x.due("lock(1, 0, 0, 9)", -100);
        x.due("lock(1, 0, 1, 8)", -107);
        x.due("lock(1, 0, 1, 7)", 2);
        x.due("lock(1, 0, 1, 6)", 1);
        x.due("beat(0, 0)", 1);
        x.due("lock(1, 0, 1, 5)", 1);
        x.due("beat(0, 0)", 0);
        x.due("lock(1, 0, 1, 4)", -104);
        x.cells(1, 0, ';', 'l', '2', '1', '9', ';');
        x.due("lock(1, 0, 1, 5)", 1);

        x = DOC.test(2, "taken as a row of a SORT: how many DOORS");
        for (int sort = 0; sort < 3; sort++) {
            x.cells(sort, sort, 'l', '2', '1', '9', ';', ';', ';', ';');
            for (int doors = 1; doors <= 4; doors++) {
                x.due("lock(" + sort + ", " + sort + ", 0, " + (4 + doors) + ")", doors);
                x.due("many(1)", doors);
            }
        }
        x.cells(3, 0, 'l' + 256, '2', '1', '9', ';');
        x.due("lock(3, 0, 0, 5)", 1);

        x = DOC.test(2, "of cells from i on also where i is not 0 .. how many there are, if none of them is taken, too");
        x.cells(1, 0, 'l', '2');
        x.fault("lock(1, 0, -1, 0)", INDEX);
        x.fault("lock(1, 0, MIN, 0)", INDEX);
        x.due("lock(1, 0, 0, 0)", -100);
        x.due("lock(1, 0, 2, 0)", -100);
        x.fault("lock(1, 0, 3, 0)", INDEX);
        x.fault("lock(1, 0, MAX, 0)", INDEX);
        x.cells(2, 2);
        x.due("lock(2, 2, 0, 0)", -100);
        x.fault("lock(2, 2, 1, 0)", INDEX);
    }

    private static void lockRefused() {
        Run x = DOC.test(2, "UNKNOWN; OUTSIDE: sort");
        x.locked("l211;").cells(0, 0, 'l', '2', '1', '9', ';').cells(3, 2, 'l', '2', '1', '9', ';', ';');
        for (String sheet : new String[] {"-1", "4", "MIN", "MAX"}) {
            x.due("lock(" + sheet + ", 0, 0, 5)", UNKNOWN);
        }
        for (String sort : new String[] {"-1", "3", "MIN", "MAX"}) {
            x.due("lock(0, " + sort + ", 0, 5)", OUTSIDE);
        }
        x.due("lock(0, 0, 0, 5)", 1);
        x.due("lock(3, 2, 0, 6)", 2);
    }

    private static void lockFaults() {
        Run x = DOC.test(2, "FAULTS CAST (nothing is no CAST), NULL");
        for (int sort = 0; sort < 3; sort++) {
            x.cells(sort, sort, 'l', '2', '1', '9', ';');
        }
        for (int sheet = 0; sheet < 3; sheet++) {
            for (int sort = 0; sort < 3; sort++) {
                if (sheet != sort) {
                    x.fault("lock(" + sheet + ", " + sort + ", 0, 5)", CAST);
                }
            }
            x.fault("lock(3, " + sheet + ", 0, 5)", NULL);
        }
        x.due("lose(0)", 1);
        x.fault("lock(0, 0, 0, 5)", NULL);
        x.fault("lock(0, 1, 0, 5)", NULL);

        x = DOC.test(2, "SIZE: n is below 0");
        x.cells(0, 0, 'l', '2', '1', '9', ';');
        x.fault("lock(0, 0, 0, -1)", SIZE);
        x.fault("lock(0, 0, 5, -5)", SIZE);
        x.fault("lock(0, 0, 0, MIN)", SIZE);
        x.due("lock(0, 0, 0, 0)", -100);

        x = DOC.test(2, "INDEX: not all cells are there");
        x.cells(0, 0, 'l', '2', '1', '9', ';');
        x.fault("lock(0, 0, -1, 5)", INDEX);
        x.fault("lock(0, 0, 0, 6)", INDEX);
        x.fault("lock(0, 0, 1, 5)", INDEX);
        x.fault("lock(0, 0, 5, 1)", INDEX);
        x.fault("lock(0, 0, 0, MAX)", INDEX);
        x.fault("lock(0, 0, 1, MAX)", INDEX);
        x.fault("lock(0, 0, MAX, MAX)", INDEX);
        x.fault("lock(0, 0, MIN, 5)", INDEX);
        x.fault("lock(0, 0, MIN, MAX)", INDEX);
        x.due("lock(0, 0, 4, 1)", -100);
        x.due("lock(0, 0, 0, 5)", 1);
    }

    private static void lockOrder() {
        Run x = DOC.test(2, "UNKNOWN; OUTSIDE: sort; FAULTS CAST (nothing is no CAST), NULL, SIZE: n is below 0, "
            + "INDEX: not all cells are there; -100 less it.");
        x.cells(1, 0, 'k', '2', '1', '9', ';');
        x.due("lock(4, 3, 0, 5)", UNKNOWN);
        x.due("lock(4, 0, 0, -1)", UNKNOWN);
        x.due("lock(4, 0, -1, 5)", UNKNOWN);
        x.due("lock(-1, 3, -1, -1)", UNKNOWN);
        x.due("lock(1, 3, 0, 5)", OUTSIDE);
        x.due("lock(0, 3, 0, 5)", OUTSIDE);
        x.due("lock(1, -1, 0, -1)", OUTSIDE);
        x.due("lock(1, -1, -1, 5)", OUTSIDE);
        x.fault("lock(1, 1, 0, 5)", CAST);
        x.fault("lock(1, 1, 0, -1)", CAST);
        x.fault("lock(1, 1, -1, 5)", CAST);
        x.fault("lock(1, 1, -1, -1)", CAST);
        x.fault("lock(0, 0, 0, -1)", NULL);
        x.fault("lock(0, 0, -1, 5)", NULL);
        x.fault("lock(0, 0, -1, -1)", NULL);
        x.fault("lock(1, 0, -1, -1)", SIZE);
        x.fault("lock(1, 0, 6, -1)", SIZE);
        x.fault("lock(1, 0, 0, 6)", INDEX);
        x.fault("lock(1, 0, 6, 0)", INDEX);
        x.due("lock(1, 0, 0, 5)", -100);
    }

    private static void board() {
        Run x = DOC.test(3, "From how much weight on a BOARD is FELT.");
        x.locked("l71928374;0");
        int[] want = {1, 9, 2, 8, 3, 7, 4};
        for (int b = 0; b < want.length; b++) {
            x.due("board(" + b + ")", want[b]);
        }

        x = DOC.test(3, "FELT. UNKNOWN.");
        x.due("board(0)", UNKNOWN);
        x.locked("l71111111;").locked("l211;");
        x.due("board(1)", 1);
        for (String b : new String[] {"-1", "2", "6", "7", "8", "MIN", "MAX"}) {
            x.due("board(" + b + ")", UNKNOWN);
        }
        x.locked("l71111111;");
        x.due("board(6)", 1);
        x.due("board(7)", UNKNOWN);
    }

    private static void beat() {
        Run x = DOC.test(4, "how many BEATS (k -1)");
        x.locked("l211;;,;,,,,,;0,1,01");
        x.due("beat(0, -1)", 1);
        x.due("beat(1, -1)", 2);
        x.due("beat(2, -1)", 6);
        x.due("beat(3, -1)", 3);

        x = DOC.test(4, "the BOARDS of the k-th (0 on), as a set");
        x.locked("l71111111;0123,,3456,6,05,1;2;;16");
        int[] want = {15, 0, 120, 64, 33, 2};
        for (int k = 0; k < want.length; k++) {
            x.due("beat(0, " + k + ")", want[k]);
        }
        x.due("beat(1, 0)", 4);
        x.due("beat(2, 0)", 0);
        x.due("beat(3, 0)", 66);

        x = DOC.test(4, "Sets are told as bits (bit k for number k).");
        x.locked("l71111111;0,1,2,3,4,5;6,56,0123");
        for (int k = 0; k < 6; k++) {
            x.due("beat(0, " + k + ")", 1 << k);
        }
        x.due("beat(1, 0)", 64);
        x.due("beat(1, 1)", 96);
        x.due("beat(1, 2)", 15);

        x = DOC.test(4, "as a set. UNKNOWN.");
        x.due("beat(0, 0)", UNKNOWN);
        x.due("beat(0, -1)", UNKNOWN);
        x.locked("l211;0,0,0,0,0,0;0;0;0").locked("l211;1,1;1,1,1,1,1,1");
        for (String door : new String[] {"-1", "2", "3", "4", "MIN", "MAX"}) {
            x.due("beat(" + door + ", -1)", UNKNOWN);
            x.due("beat(" + door + ", 0)", UNKNOWN);
        }
        for (String k : new String[] {"-2", "2", "5", "6", "MIN", "MAX"}) {
            x.due("beat(0, " + k + ")", UNKNOWN);
        }
        x.due("beat(1, 5)", 2);
        x.due("beat(1, 6)", UNKNOWN);
        x.due("beat(1, -6)", UNKNOWN);
    }

    private static void change() {
        Run x = DOC.test(5, "A BEAT is CHANGED: what it was.");
        x.locked("l71111111;01,2;3,,,,,6");
        x.due("change(0, 0, 4)", 3);
        x.due("change(0, 0, 5)", 4);
        x.due("change(0, 1, 64)", 4);
        x.due("change(1, 0, 8)", 8);
        x.due("change(1, 1, 1)", 0);
        x.due("change(1, 5, 0)", 64);
        x.due("beat(0, 0)", 5);
        x.due("beat(0, 1)", 64);
        x.due("beat(1, 0)", 8);
        x.due("beat(1, 1)", 1);
        x.due("beat(1, 2)", 0);
        x.due("beat(1, 5)", 0);
        x.due("beat(0, -1)", 2);
        x.due("beat(1, -1)", 6);

        x = DOC.test(5, "it becomes another set of BOARDS, 4 at most");
        x.locked("l71111111;0123");
        x.due("change(0, 0, 0)", 15);
        x.due("change(0, 0, 120)", 0);
        x.due("change(0, 0, 85)", 120);
        x.due("change(0, 0, 87)", OUTSIDE);
        x.due("change(0, 0, 127)", OUTSIDE);
        x.due("change(0, 0, 31)", OUTSIDE);
        x.due("beat(0, 0)", 85);
    }

    private static void changeRefused() {
        Run x = DOC.test(5, "UNKNOWN: DOOR, BEAT");
        x.due("change(0, 0, 0)", UNKNOWN);
        x.locked("l211;0,0,0,0,0,0;0;0;0").locked("l211;0,1;1");
        for (String no : new String[] {"-1", "2", "3", "4", "6", "MIN", "MAX"}) {
            x.due("change(" + no + ", 0, 1)", UNKNOWN);
            x.due("change(0, " + no + ", 1)", UNKNOWN);
        }
        x.due("change(1, 1, 1)", UNKNOWN);
        x.due("change(0, 1, 1)", 2);

        x = DOC.test(5, "OUTSIDE: a bit of none, more than 4");
        x.locked("l511111;01,2");
        x.due("change(0, 0, 32)", OUTSIDE);
        x.due("change(0, 0, 33)", OUTSIDE);
        x.due("change(0, 0, MIN)", OUTSIDE);
        x.due("change(0, 0, -1)", OUTSIDE);
        x.due("change(0, 0, 31)", OUTSIDE);
        x.due("change(0, 0, 15)", 3);
        x.due("change(0, 0, 30)", 15);
        x.due("change(0, 1, 16)", 4);

        x = DOC.test(5, "UNKNOWN: DOOR, BEAT; OUTSIDE: a bit of none, more than 4.");
        x.due("change(0, 0, 1)", UNKNOWN);
        x.locked("l511111;01,2");
        x.due("change(1, 0, 32)", UNKNOWN);
        x.due("change(1, 0, 31)", UNKNOWN);
        x.due("change(-1, 0, -1)", UNKNOWN);
        x.due("change(0, 2, 32)", UNKNOWN);
        x.due("change(0, 2, 31)", UNKNOWN);
        x.due("change(0, -1, MIN)", UNKNOWN);
    }

    private static void many() {
        Run x = DOC.test(37, "How many: 0 BOARDS, 1 DOORS, 2 DANCERS, 3 FAMILIES.");
        int[] none = {0, 0, 0, 0};
        int[] some = {3, 2, 1, 0};
        int[] most = {7, 4, 4, 6};
        manyAre(x, none);
        x.locked("l3111;0;1").dancers(2, 9);
        manyAre(x, some);
        x.locked("l71111111;;;;").dancers(0, 1, 1, 1, 2, 1, 0, 1).families(0, 0, 0, 0, 0, 0);
        manyAre(x, most);

        x = DOC.test(37, "3 FAMILIES. OUTSIDE.");
        for (String what : new String[] {"-1", "4", "MIN", "MAX"}) {
            x.due("many(" + what + ")", OUTSIDE);
        }
        x.due("many(0)", 0);
        x.due("many(3)", 0);
    }

    private static void manyAre(Run x, int[] want) {
        for (int what = 0; what < want.length; what++) {
            x.due("many(" + what + ")", want[what]);
        }
    }
}
