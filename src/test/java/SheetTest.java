/** Promises 27 to 36: sheet, lose, put, cell, copy, tell, lead, as, trace, fault. */
public final class SheetTest {
    private static final Check CHECK = new Check();
    private static final int UNKNOWN = DancedLock.UNKNOWN;
    private static final int OUTSIDE = DancedLock.OUTSIDE;
    private static final long LOST = DancedLock.LOST;

    public static void main(String[] args) {
        sheets();
        lose();
        cutting();
        putRefused();
        cellRefused();
        copies();
        copyRefused();
        telling();
        leading();
        takenAs();
        traceWraps();
        faults();
        CHECK.end();
    }

    private static void sheets() {
        DancedLock x = new DancedLock();
        CHECK.due("new row", x.sheet(3, 2, 80), 1, x, 0);
        CHECK.due("last cell", x.cell(3, 79, 2), 0, x, 0);
        CHECK.due("behind it", x.cell(3, 80, 2), LOST, x, 3);
        x.put(3, 79, 7);
        CHECK.due("anew", x.sheet(3, 2, 80), 1, x, 0);
        CHECK.due("0 again", x.cell(3, 79, 2), 0, x, 0);
        CHECK.due("a row of none", x.sheet(3, 0, 0), 1, x, 0);
        CHECK.due("no cell in it", x.cell(3, 0, 0), LOST, x, 3);
        CHECK.due("it is something", x.lose(3), 1);
        x.put(0, 0, 0);
        CHECK.due("no sheet", x.sheet(4, 9, -1), UNKNOWN, x, 0);
        CHECK.due("no sheet -1", x.sheet(-1, 0, 0), UNKNOWN, x, 0);
        CHECK.due("sort 3", x.sheet(0, 3, -1), OUTSIDE, x, 0);
        CHECK.due("sort -1", x.sheet(0, -1, 1), OUTSIDE, x, 0);
        CHECK.due("n 81", x.sheet(0, 0, 81), OUTSIDE, x, 0);
        CHECK.due("n below 0", x.sheet(0, 0, -1), -14, x, 4);
        CHECK.due("n far below 0", x.sheet(0, 0, Integer.MIN_VALUE), -14, x, 4);
        CHECK.due("still nothing", x.lose(0), 0);
    }

    private static void lose() {
        DancedLock x = new DancedLock();
        x.sheet(0, 0, -1);
        CHECK.due("no sheet", x.lose(4), UNKNOWN);
        CHECK.due("no sheet -1", x.lose(-1), UNKNOWN);
        CHECK.due("nothing", x.lose(0), 0);
        CHECK.due("lose names no fault", x.fault(), 4);
        x.sheet(0, 0, 3);
        x.sheet(1, 0, 3);
        CHECK.due("lost", x.lose(0), 1);
        CHECK.due("lost already", x.lose(0), 0);
        CHECK.due("has nothing", x.put(0, 0, 0), -11, x, 1);
        CHECK.due("the other stays", x.put(1, 0, 0), 1, x, 0);
    }

    private static void cutting() {
        DancedLock x = new DancedLock();
        int[] values = {127, 128, -129, 32767, 32768, -32769, Integer.MAX_VALUE, Integer.MIN_VALUE};
        for (int sort = 0; sort < 3; sort++) {
            Check.cells(x, sort, sort, values);
        }
        for (int i = 0; i < values.length; i++) {
            CHECK.due("byte " + i, x.cell(0, i, 0), (byte) values[i], x, 0);
            CHECK.due("short " + i, x.cell(1, i, 1), (short) values[i], x, 0);
            CHECK.due("int " + i, x.cell(2, i, 2), values[i], x, 0);
        }
    }

    private static void putRefused() {
        DancedLock x = new DancedLock();
        x.sheet(1, 0, 2);
        CHECK.due("no sheet", x.put(4, 0, 0), UNKNOWN, x, 0);
        CHECK.due("no sheet -1", x.put(-1, 9, 0), UNKNOWN, x, 0);
        CHECK.due("nothing", x.put(0, -1, 0), -11, x, 1);
        CHECK.due("ahead", x.put(1, -1, 5), -13, x, 3);
        CHECK.due("behind", x.put(1, 2, 5), -13, x, 3);
        CHECK.due("far behind", x.put(1, Integer.MAX_VALUE, 5), -13, x, 3);
        CHECK.due("far ahead", x.put(1, Integer.MIN_VALUE, 5), -13, x, 3);
        CHECK.due("last", x.put(1, 1, 5), 1, x, 0);
        CHECK.due("it became", x.cell(1, 1, 0), 5, x, 0);
        CHECK.due("the first stays", x.cell(1, 0, 0), 0, x, 0);
    }

    private static void cellRefused() {
        DancedLock x = new DancedLock();
        x.sheet(1, 1, 2);
        CHECK.due("no sheet", x.cell(4, 0, 9), LOST, x, 0);
        CHECK.due("no sheet -1", x.cell(-1, 0, 1), LOST, x, 0);
        CHECK.due("sort 3", x.cell(1, 0, 3), LOST, x, 0);
        CHECK.due("sort -1", x.cell(1, 9, -1), LOST, x, 0);
        CHECK.due("nothing", x.cell(0, 9, 0), LOST, x, 1);
        CHECK.due("unlike", x.cell(1, 9, 0), LOST, x, 2);
        CHECK.due("ahead", x.cell(1, -1, 1), LOST, x, 3);
        CHECK.due("behind", x.cell(1, 2, 1), LOST, x, 3);
        CHECK.due("far behind", x.cell(1, Integer.MAX_VALUE, 1), LOST, x, 3);
        CHECK.due("there", x.cell(1, 1, 1), 0, x, 0);
    }

    private static void sheetIs(DancedLock x, int k, int sort, int... want) {
        for (int i = 0; i < want.length; i++) {
            CHECK.due("cell " + i, x.cell(k, i, sort), want[i]);
        }
    }

    private static void copies() {
        DancedLock x = new DancedLock();
        Check.cells(x, 0, 1, 1, 2, 3, 4, 5);
        x.sheet(1, 1, 4);
        CHECK.due("to another", x.copy(0, 1, 1, 0, 3), 3, x, 0);
        sheetIs(x, 1, 1, 2, 3, 4, 0);
        CHECK.due("onward in itself", x.copy(0, 0, 0, 1, 4), 4, x, 0);
        sheetIs(x, 0, 1, 1, 1, 2, 3, 4);
        CHECK.due("back in itself", x.copy(0, 2, 0, 0, 3), 3, x, 0);
        sheetIs(x, 0, 1, 2, 3, 4, 3, 4);
        CHECK.due("none", x.copy(0, 5, 1, 4, 0), 0, x, 0);
        CHECK.due("all of it", x.copy(1, 0, 0, 1, 4), 4, x, 0);
        sheetIs(x, 0, 1, 2, 2, 3, 4, 0);
        sheetIs(x, 1, 1, 2, 3, 4, 0);
    }

    private static void copyRefused() {
        DancedLock x = new DancedLock();
        Check.cells(x, 0, 1, 1, 2, 3);
        x.sheet(1, 1, 2);
        x.sheet(2, 0, 3);
        CHECK.due("no sheet", x.copy(4, 0, 0, 0, 0), UNKNOWN, x, 0);
        CHECK.due("no sheet -1", x.copy(-1, 0, 3, 0, 0), UNKNOWN, x, 0);
        CHECK.due("no other", x.copy(3, 0, 4, 0, 0), UNKNOWN, x, 0);
        CHECK.due("no other -1", x.copy(0, 0, -1, 0, 0), UNKNOWN, x, 0);
        CHECK.due("nothing", x.copy(3, -1, 0, 0, 0), -11, x, 1);
        CHECK.due("nothing there", x.copy(0, -1, 3, 0, 0), -11, x, 1);
        CHECK.due("nothing at all", x.copy(3, 0, 3, 0, 0), -11, x, 1);
        CHECK.due("unlike", x.copy(0, -1, 2, 0, 0), -12, x, 2);
        CHECK.due("i ahead", x.copy(0, -1, 1, 0, 0), -13, x, 3);
        CHECK.due("j ahead", x.copy(0, 0, 1, -1, 0), -13, x, 3);
        CHECK.due("n below 0", x.copy(0, 1, 1, 1, -1), -13, x, 3);
        CHECK.due("i beyond", x.copy(0, 4, 1, 0, 0), -13, x, 3);
        CHECK.due("j beyond", x.copy(0, 0, 1, 3, 0), -13, x, 3);
        CHECK.due("too many there", x.copy(0, 0, 1, 0, 3), -13, x, 3);
        CHECK.due("too many here", x.copy(1, 1, 0, 0, 2), -13, x, 3);
        CHECK.due("far too many", x.copy(0, 3, 1, 2, Integer.MAX_VALUE), -13, x, 3);
        CHECK.due("far", x.copy(0, Integer.MAX_VALUE, 1, Integer.MAX_VALUE, 2), -13, x, 3);
        CHECK.due("least", x.copy(0, 0, 1, 0, Integer.MIN_VALUE), -13, x, 3);
        CHECK.due("refused behind a fault", x.copy(4, 0, 0, 0, 0), UNKNOWN, x, 0);
        sheetIs(x, 0, 1, 1, 2, 3);
        sheetIs(x, 1, 1, 0, 0);
    }

    private static void telling() {
        DancedLock x = Check.danced("l211;", 0, 3, 1, 4, 2, 5);
        CHECK.due("no dancer", x.tell(3), UNKNOWN);
        CHECK.due("no dancer -1", x.tell(-1), UNKNOWN);
        CHECK.due("no trace", x.trace(), 0);
        CHECK.due("a dancer", x.tell(0), 3);
        CHECK.due("its trace", x.trace(), 1);
        CHECK.due("a limper", x.tell(1), 104);
        CHECK.due("its trace", x.trace(), (31 + 2) * 31 + 1);
        DancedLock y = Check.danced("l211;", 2, 5);
        CHECK.due("a child", y.tell(0), 110);
        CHECK.due("its trace", y.trace(), ((3 * 31 + 2) * 31 + 1) * 31 + 1);
    }

    private static void leading() {
        DancedLock x = Check.danced("l211;", 0, 3, 1, 4, 2, 5, 0, 6);
        CHECK.due("no dancer", x.lead(4), UNKNOWN);
        CHECK.due("no dancer -1", x.lead(-1), UNKNOWN);
        CHECK.due("no trace", x.trace(), 0);
        CHECK.due("a dancer", x.lead(3), 3);
        CHECK.due("its trace", x.trace(), 4);
        CHECK.due("a limper", x.lead(1), 1);
        CHECK.due("its trace", x.trace(), 4 * 31 + 4);
        CHECK.due("a child", x.lead(2), 60);
        CHECK.due("its trace", x.trace(), (4 * 31 + 4) * 31 + 5);
    }

    private static void takenAs() {
        DancedLock x = Check.danced("l211;", 0, 3, 1, 4, 2, 5);
        for (int d = 0; d < 3; d++) {
            for (int kind = 0; kind < 3; kind++) {
                boolean is = kind <= d;
                CHECK.due("as " + d + " " + kind, x.as(d, kind), is ? 1 : -12, x, is ? 0 : 2);
            }
            CHECK.due("kind 3", x.as(d, 3), OUTSIDE, x, 0);
            CHECK.due("kind -1", x.as(d, -1), OUTSIDE, x, 0);
        }
        x.as(0, 2);
        CHECK.due("no dancer", x.as(3, 9), UNKNOWN, x, 0);
        x.as(0, 2);
        CHECK.due("no dancer -1", x.as(-1, 0), UNKNOWN, x, 0);
        CHECK.due("no trace of it", x.trace(), 0);
    }

    private static void traceWraps() {
        DancedLock x = Check.danced("l211;", 2, 9, 0, 1);
        int trace = 0;
        for (int time = 0; time < 20; time++) {
            x.tell(0);
            x.lead(0);
            x.lead(1);
            for (int number : new int[] {3, 2, 1, 1, 5, 4}) {
                trace = 31 * trace + number;
            }
            CHECK.due("trace " + time, x.trace(), trace);
        }
    }

    private static void faults() {
        DancedLock x = Check.danced("l211;", 0, 3);
        x.as(0, 1);
        x.board(0);
        x.beat(0, 0);
        x.change(0, 0, 9);
        x.dancer(0, 0);
        x.ofDancer(0, 9);
        x.leave(0);
        x.can(0);
        x.plan(0, 0, 0);
        x.limped(0);
        x.family(0);
        x.knows(9);
        x.fewest(0);
        x.any(0);
        x.gone(0, 0);
        x.evenings(0);
        x.apart(0, 0);
        x.nearest(0);
        x.safe();
        x.plans(0, 0);
        x.lose(9);
        x.tell(0);
        x.lead(0);
        x.trace();
        x.many(0);
        CHECK.due("none of these names a fault", x.fault(), 2);
        CHECK.due("nor fault itself", x.fault(), 2);
        x.lock(0, 2, 0, 1);
        CHECK.due("lock names them", x.fault(), 0);
    }
}
