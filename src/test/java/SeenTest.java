/** Promises 21 to 25: seen, part, apart, nearest, safe. */
public final class SeenTest {
    private static final Check CHECK = new Check();
    private static final int UNKNOWN = DancedLock.UNKNOWN;
    private static final int OUTSIDE = DancedLock.OUTSIDE;
    private static final int STATE = DancedLock.STATE;

    public static void main(String[] args) {
        seen();
        seenRefused();
        part();
        partRefused();
        apart();
        nearest();
        safe();
        CHECK.end();
    }

    private static void seen() {
        DancedLock x = Check.locked("l41111;01,2;0,23;1,2;01");
        Check.cells(x, 1, 2, 1, 4, 1, 3);
        CHECK.due("of 0 and 2", x.seen(5, 1, 2, 0, 2), 1 | 2, x, 0);
        CHECK.due("of 0, 1, 2", x.seen(7, 1, 2, 0, 2), 2, x, 0);
        CHECK.due("of all", x.seen(15, 1, 2, 0, 2), 0, x, 0);
        CHECK.due("as many beats alone", x.seen(3, 1, 2, 3, 1), 8, x, 0);
        CHECK.due("three beats", x.seen(15, 1, 2, 0, 3), 0, x, 0);
        CHECK.due("no beats", x.seen(15, 1, 2, 0, 0), 0, x, 0);
        CHECK.due("no beats at the end", x.seen(0, 1, 2, 4, 0), 0, x, 0);
        x.sheet(2, 0, 80);
        CHECK.due("of none", x.seen(0, 2, 0, 0, 2), 7, x, 0);
        CHECK.due("of none, one beat", x.seen(0, 2, 0, 0, 1), 8, x, 0);
        CHECK.due("many beats", x.seen(15, 2, 0, 0, 80), 0, x, 0);
    }

    private static void seenRefused() {
        DancedLock x = new DancedLock();
        x.sheet(1, 1, 2);
        CHECK.due("no sheet", x.seen(1, 4, 9, 0, 0), UNKNOWN, x, 0);
        CHECK.due("no lock, a bit", x.seen(1, 1, 1, 0, 1), OUTSIDE, x, 0);
        CHECK.due("no lock", x.seen(0, 1, 1, 0, 1), STATE, x, 0);
        CHECK.due("no lock, beyond", x.seen(0, 1, 1, 0, 3), -13, x, 3);
        Check.lock(x, "l41111;01,2");
        CHECK.due("no sheet -1", x.seen(0, -1, 1, 0, 0), UNKNOWN, x, 0);
        CHECK.due("sort", x.seen(0, 1, 3, 0, 0), OUTSIDE, x, 0);
        CHECK.due("sort -1", x.seen(0, 2, -1, 0, 0), OUTSIDE, x, 0);
        CHECK.due("a bit of none", x.seen(16, 2, 1, 0, 0), OUTSIDE, x, 0);
        CHECK.due("all bits", x.seen(-1, 2, 1, 0, 0), OUTSIDE, x, 0);
        CHECK.due("unlike", x.seen(15, 1, 2, -1, -1), -12, x, 2);
        CHECK.due("nothing", x.seen(15, 2, 2, -1, -1), -11, x, 1);
        CHECK.due("below 0", x.seen(15, 1, 1, -1, -1), -14, x, 4);
        CHECK.due("ahead", x.seen(15, 1, 1, -1, 0), -13, x, 3);
        CHECK.due("beyond", x.seen(15, 1, 1, 3, 0), -13, x, 3);
        Check.cells(x, 1, 1, 3, 4, -1);
        CHECK.due("not of these", x.seen(3, 1, 1, 0, 2), OUTSIDE, x, 0);
        CHECK.due("of these", x.seen(7, 1, 1, 0, 2), 1, x, 0);
        CHECK.due("below 0", x.seen(15, 1, 1, 2, 1), OUTSIDE, x, 0);
    }

    private static void part() {
        DancedLock x = Check.locked("l3111;0,1,0,1,2;1,2;0,2,1;1");
        Check.cells(x, 1, 0, 2, 1, 4);
        CHECK.due("one", x.part(1, 0, 0, 1), 15, x, 0);
        Check.cells(x, 1, 0, 1, 2, 4, 2);
        CHECK.due("three", x.part(1, 0, 0, 3), 1, x, 0);
        CHECK.due("two", x.part(1, 0, 1, 2), 1 | 2, x, 0);
        CHECK.due("other two", x.part(1, 0, 2, 2), 4, x, 0);
        CHECK.due("four", x.part(1, 0, 0, 4), 0, x, 0);
        x.sheet(2, 0, 80);
        CHECK.due("many", x.part(2, 0, 0, 80), 0, x, 0);
        CHECK.due("none felt", x.part(2, 0, 0, 1), 0, x, 0);
        x.change(2, 1, 0);
        CHECK.due("none felt once", x.part(2, 0, 0, 1), 4, x, 0);
    }

    private static void partRefused() {
        DancedLock x = new DancedLock();
        x.sheet(1, 1, 2);
        CHECK.due("no lock", x.part(1, 1, 0, 0), STATE, x, 0);
        CHECK.due("no lock, beyond", x.part(1, 1, 0, 3), -13, x, 3);
        Check.lock(x, "l3111;0,1");
        CHECK.due("no sheet", x.part(4, 9, 0, 0), UNKNOWN, x, 0);
        CHECK.due("no sheet -1", x.part(-1, 1, 0, 0), UNKNOWN, x, 0);
        CHECK.due("sort", x.part(2, 3, 0, 0), OUTSIDE, x, 0);
        CHECK.due("unlike", x.part(1, 0, -1, -1), -12, x, 2);
        CHECK.due("nothing", x.part(2, 0, -1, -1), -11, x, 1);
        CHECK.due("below 0", x.part(1, 1, -1, -1), -14, x, 4);
        CHECK.due("ahead", x.part(1, 1, -1, 1), -13, x, 3);
        CHECK.due("none beyond", x.part(1, 1, 3, 0), -13, x, 3);
        CHECK.due("none", x.part(1, 1, 2, 0), OUTSIDE, x, 0);
        Check.cells(x, 1, 1, 8, -1, 7);
        CHECK.due("no board", x.part(1, 1, 0, 1), OUTSIDE, x, 0);
        CHECK.due("below 0 in a cell", x.part(1, 1, 1, 2), OUTSIDE, x, 0);
        CHECK.due("all boards", x.part(1, 1, 2, 1), 0, x, 0);
    }

    private static void apart() {
        DancedLock x = Check.locked("l3111;0,1,2;0,2;0,1,2,0,1,;");
        CHECK.due("itself", x.apart(0, 0), 0);
        CHECK.due("one and one more", x.apart(0, 1), 2);
        CHECK.due("other way round", x.apart(1, 0), 2);
        CHECK.due("three more", x.apart(0, 2), 3);
        CHECK.due("the empty one", x.apart(3, 2), 6);
        CHECK.due("no door", x.apart(0, 4), UNKNOWN);
        CHECK.due("no door ahead", x.apart(4, 0), UNKNOWN);
        CHECK.due("no door -1", x.apart(0, -1), UNKNOWN);
        CHECK.due("no door -1 ahead", x.apart(-1, 0), UNKNOWN);
    }

    private static void nearest() {
        DancedLock x = Check.locked("l3111;0,1;0,2;0,1,2;0,0");
        CHECK.due("the least of several", x.nearest(0), 1);
        CHECK.due("of 1", x.nearest(1), 0);
        CHECK.due("of 2", x.nearest(2), 0);
        CHECK.due("of 3", x.nearest(3), 0);
        x.change(3, 1, 4);
        CHECK.due("of 1, changed", x.nearest(1), 3);
        CHECK.due("no door", x.nearest(4), UNKNOWN);
        CHECK.due("no door -1", x.nearest(-1), UNKNOWN);
        CHECK.due("alone", Check.locked("l211;").nearest(0), DancedLock.NONE);
        CHECK.due("as far as can be", Check.locked("l211;;0,0,0,0,0,0").nearest(1), 0);
    }

    private static void safeIs(String text, int want) {
        CHECK.due("safe " + text, Check.locked(text).safe(), want);
    }

    private static void safe() {
        CHECK.due("no lock", new DancedLock().safe(), STATE);
        safeIs("l211;0", 1);
        safeIs("l211;0,1;0,0", 1);
        safeIs("l211;0,1;0,1", 0);
        safeIs("l211;0,1;0,1,1", 0);
        safeIs("l211;0,1,1;0,1", 0);
        safeIs("l211;0,1,1;1", 1);
        safeIs("l211;,1;", 0);
        safeIs("l211;1;0;01;1,1", 0);
        safeIs("l211;1;0;01;,1,1", 1);
        safeIs("l211;0;0,", 0);
    }
}
