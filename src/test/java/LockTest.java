/** Promises 1 to 5 and 37: a new object, lock, board, beat, change, many. */
public final class LockTest {
    private static final Check CHECK = new Check();

    public static void main(String[] args) {
        newObject();
        textsTaken();
        firstFaults();
        lockRefusals();
        lockMakesAnew();
        boardsAndBeats();
        changes();
        howMany();
        CHECK.end();
    }

    private static void newObject() {
        DancedLock x = new DancedLock();
        for (int what = 0; what < 4; what++) {
            CHECK.due("new many " + what, x.many(what), 0);
        }
        for (int k = 0; k < 4; k++) {
            CHECK.due("new lose " + k, x.lose(k), 0);
        }
        CHECK.due("new trace", x.trace(), 0);
        CHECK.due("new fault", x.fault(), 0);
        CHECK.due("new board", x.board(0), DancedLock.UNKNOWN);
        CHECK.due("new beat", x.beat(0, -1), DancedLock.UNKNOWN);
        CHECK.due("new safe", x.safe(), DancedLock.STATE);
        CHECK.due("LOST", DancedLock.LOST, Long.MIN_VALUE);
        CHECK.due("UNKNOWN", DancedLock.UNKNOWN, -1);
        CHECK.due("OUTSIDE", DancedLock.OUTSIDE, -2);
        CHECK.due("STATE", DancedLock.STATE, -3);
        CHECK.due("FULL", DancedLock.FULL, -4);
        CHECK.due("NONE", DancedLock.NONE, -9);
    }

    private static void text(String text, int want) {
        CHECK.due("lock " + text, Check.lock(new DancedLock(), text), want);
    }

    private static void textsTaken() {
        text("l211;", 1);
        text("l7123456789".substring(0, 9) + ";0123,3456,6", 1);
        text("l499993".substring(0, 6) + ";;;;", 4);
        text("l219;,,,,,", 1);
        text("l219;01,0,1,,01,1;1", 2);
    }

    private static void firstFaults() {
        text("", -100);
        text("k", -100);
        text("l", -101);
        text("l1", -101);
        text("l8", -101);
        text("la", -101);
        text("l2", -102);
        text("l20", -102);
        text("l2:", -102);
        text("l21", -103);
        text("l21;", -103);
        text("l219", -104);
        text("l2190", -104);
        text("l219,", -104);
        text("l2199", -104);
        text("l219;2", -105);
        text("l219;/", -105);
        text("l219; 0", -105);
        text("l219;00", -106);
        text("l219;10", -106);
        text("l71111111;01234", -114);
        text("l71111111;0123,0123,65", -121);
        text("l219;,,,,,,", -110);
        text("l219;0,0,0,0,0,0,0", -116);
        text("l219;;;;;", -108);
        text("l219;0;0;0;0;0", -112);
        text("l219;;;;0,1l", -111);
    }

    private static void lockRefusals() {
        DancedLock x = new DancedLock();
        Check.cells(x, 1, 0, 'l', '2', '1', '9', ';', '0');
        CHECK.due("no sheet -1", x.lock(-1, 0, 0, 5), DancedLock.UNKNOWN, x, 0);
        CHECK.due("no sheet 4", x.lock(4, 9, 0, 5), DancedLock.UNKNOWN, x, 0);
        CHECK.due("sort -1", x.lock(1, -1, 0, 5), DancedLock.OUTSIDE, x, 0);
        CHECK.due("sort 3", x.lock(0, 3, 0, 5), DancedLock.OUTSIDE, x, 0);
        CHECK.due("unlike sort", x.lock(1, 1, 0, -1), -12, x, 2);
        CHECK.due("nothing", x.lock(0, 1, 0, -1), -11, x, 1);
        CHECK.due("n below 0", x.lock(1, 0, -1, -1), -14, x, 4);
        CHECK.due("n least", x.lock(1, 0, 0, Integer.MIN_VALUE), -14, x, 4);
        CHECK.due("i below 0", x.lock(1, 0, -1, 3), -13, x, 3);
        CHECK.due("too many", x.lock(1, 0, 0, 7), -13, x, 3);
        CHECK.due("far too many", x.lock(1, 0, 6, Integer.MAX_VALUE), -13, x, 3);
        CHECK.due("far too far", x.lock(1, 0, Integer.MAX_VALUE, Integer.MAX_VALUE), -13, x, 3);
        CHECK.due("none beyond", x.lock(1, 0, 7, 0), -13, x, 3);
        CHECK.due("none ahead", x.lock(1, 0, -1, 0), -13, x, 3);
        CHECK.due("none at the end", x.lock(1, 0, 6, 0), -100, x, 0);
        CHECK.due("from the middle", x.lock(1, 0, 1, 5), -100, x, 0);
        CHECK.due("refused all", x.many(0), 0);
        CHECK.due("bytes", x.lock(1, 0, 0, 6), 1, x, 0);
        CHECK.due("bytes beat", x.beat(0, 0), 1);
        Check.cells(x, 2, 1, 0, 'l', '3', '1', '9', '4', ';', 0);
        CHECK.due("shorts", x.lock(2, 1, 1, 6), 1, x, 0);
        CHECK.due("shorts board", x.board(2), 4);
    }

    private static void lockMakesAnew() {
        DancedLock x = Check.danced("l3123;0,1;2", 0, 5, 2, 7);
        x.family(3);
        x.tell(0);
        CHECK.due("refused text", Check.lock(x, "l41234;4"), -107, x, 0);
        CHECK.due("boards stay", x.many(0), 3);
        CHECK.due("board stays", x.board(2), 3);
        CHECK.due("doors stay", x.many(1), 2);
        CHECK.due("dancers stay", x.many(2), 2);
        CHECK.due("families stay", x.many(3), 1);
        CHECK.due("beat stays", x.beat(0, 0), 1);
        CHECK.due("taken text", Check.lock(x, "l29" + "8;1"), 1, x, 0);
        CHECK.due("new boards", x.many(0), 2);
        CHECK.due("new doors", x.many(1), 1);
        CHECK.due("no dancers", x.many(2), 0);
        CHECK.due("no families", x.many(3), 0);
        CHECK.due("trace stays", x.trace(), 1);
        CHECK.due("sheet stays", x.cell(0, 0, 2), 'l');
        CHECK.due("old door is gone", x.beat(1, 0), DancedLock.UNKNOWN);
        CHECK.due("old beat is gone", x.beat(0, 1), DancedLock.UNKNOWN);
        CHECK.due("old board is gone", x.board(2), DancedLock.UNKNOWN);
    }

    private static void boardsAndBeats() {
        DancedLock x = Check.locked("l71234567;0123,,3456;6");
        for (int b = 0; b < 7; b++) {
            CHECK.due("board " + b, x.board(b), b + 1);
        }
        CHECK.due("board 7", x.board(7), DancedLock.UNKNOWN);
        CHECK.due("board -1", x.board(-1), DancedLock.UNKNOWN);
        CHECK.due("beats of 0", x.beat(0, -1), 3);
        CHECK.due("beats of 1", x.beat(1, -1), 1);
        CHECK.due("beat 0 0", x.beat(0, 0), 15);
        CHECK.due("beat 0 1", x.beat(0, 1), 0);
        CHECK.due("beat 0 2", x.beat(0, 2), 120);
        CHECK.due("beat 1 0", x.beat(1, 0), 64);
        CHECK.due("beat 0 3", x.beat(0, 3), DancedLock.UNKNOWN);
        CHECK.due("beat 0 -2", x.beat(0, -2), DancedLock.UNKNOWN);
        CHECK.due("beat 1 1", x.beat(1, 1), DancedLock.UNKNOWN);
        CHECK.due("beat 2 -1", x.beat(2, -1), DancedLock.UNKNOWN);
        CHECK.due("beat -1 0", x.beat(-1, 0), DancedLock.UNKNOWN);
    }

    private static void changes() {
        DancedLock x = Check.locked("l511111;01,2;3");
        CHECK.due("no door", x.change(2, 0, 0), DancedLock.UNKNOWN);
        CHECK.due("no door -1", x.change(-1, 0, 64), DancedLock.UNKNOWN);
        CHECK.due("no beat", x.change(1, 1, 64), DancedLock.UNKNOWN);
        CHECK.due("no beat -1", x.change(0, -1, 0), DancedLock.UNKNOWN);
        CHECK.due("a bit of none", x.change(0, 0, 32), DancedLock.OUTSIDE);
        CHECK.due("all bits", x.change(0, 0, -1), DancedLock.OUTSIDE);
        CHECK.due("five", x.change(0, 0, 31), DancedLock.OUTSIDE);
        CHECK.due("stays", x.beat(0, 0), 3);
        CHECK.due("four", x.change(0, 0, 30), 3);
        CHECK.due("became", x.beat(0, 0), 30);
        CHECK.due("none", x.change(0, 0, 0), 30);
        CHECK.due("became none", x.beat(0, 0), 0);
        CHECK.due("last", x.change(1, 0, 16), 8);
        CHECK.due("other beats stay", x.beat(0, 1), 4);
        x.put(0, 99, 0);
        x.change(0, 0, 1);
        CHECK.due("change names no fault", x.fault(), 3);
    }

    private static void howMany() {
        DancedLock x = Check.danced("l6111111;0;1;2", 0, 1, 1, 1, 2, 1, 0, 1);
        x.family(0);
        x.family(1);
        CHECK.due("boards", x.many(0), 6);
        CHECK.due("doors", x.many(1), 3);
        CHECK.due("dancers", x.many(2), 4);
        CHECK.due("families", x.many(3), 2);
        CHECK.due("many 4", x.many(4), DancedLock.OUTSIDE);
        CHECK.due("many -1", x.many(-1), DancedLock.OUTSIDE);
    }
}
