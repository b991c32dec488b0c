/** Promises 6 to 14 and 26: dancers, plans judged, plans sought, plans counted. */
public final class DanceTest {
    private static final Check CHECK = new Check();
    private static final int UNKNOWN = DancedLock.UNKNOWN;
    private static final int OUTSIDE = DancedLock.OUTSIDE;
    private static final int STATE = DancedLock.STATE;
    private static final int NONE = DancedLock.NONE;

    public static void main(String[] args) {
        dancersCome();
        dancersLeave();
        whatTheyWeigh();
        felt();
        opens();
        wrong();
        refusalsOfPlans();
        noDancers();
        firstPlan();
        planOfLimpers();
        limped();
        plans();
        CHECK.end();
    }

    private static void dancersCome() {
        DancedLock x = new DancedLock();
        CHECK.due("kind ahead of state", x.dancer(3, 1), OUTSIDE);
        CHECK.due("no lock", x.dancer(0, 1), STATE);
        Check.lock(x, "l211;");
        CHECK.due("kind -1", x.dancer(-1, 1), OUTSIDE);
        CHECK.due("kind 3", x.dancer(3, 1), OUTSIDE);
        CHECK.due("weight 0", x.dancer(0, 0), OUTSIDE);
        CHECK.due("weight 10", x.dancer(0, 10), OUTSIDE);
        CHECK.due("first", x.dancer(0, 1), 0);
        CHECK.due("second", x.dancer(1, 9), 1);
        CHECK.due("third", x.dancer(2, 9), 2);
        CHECK.due("fourth", x.dancer(2, 1), 3);
        CHECK.due("fifth", x.dancer(0, 1), DancedLock.FULL);
        CHECK.due("fifth outside", x.dancer(0, 10), OUTSIDE);
        CHECK.due("how many", x.many(2), 4);
    }

    private static void dancersLeave() {
        DancedLock x = Check.danced("l211;", 0, 1, 1, 2, 2, 3, 0, 4);
        CHECK.due("leave -1", x.leave(-1), OUTSIDE);
        CHECK.due("leave 5", x.leave(5), OUTSIDE);
        CHECK.due("leave 0", x.leave(0), 4);
        CHECK.due("leave 2", x.leave(2), 2);
        CHECK.due("the first stay", x.ofDancer(1, 1), 2);
        CHECK.due("the last went", x.ofDancer(2, 1), UNKNOWN);
        CHECK.due("another comes", x.dancer(2, 8), 2);
        CHECK.due("it is another", x.ofDancer(2, 1), 8);
        CHECK.due("all leave", x.leave(3), 0);
        CHECK.due("none to leave", x.leave(1), OUTSIDE);
        CHECK.due("none leave", x.leave(0), 0);
    }

    private static void whatTheyWeigh() {
        DancedLock x = Check.danced("l211;", 0, 7, 1, 7, 2, 7, 2, 1);
        int[][] want = {{0, 7, 7}, {1, 7, 7}, {2, 7, 3}, {2, 1, 0}};
        for (int d = 0; d < 4; d++) {
            for (int what = 0; what < 3; what++) {
                CHECK.due("ofDancer " + d + " " + what, x.ofDancer(d, what), want[d][what]);
            }
            CHECK.due("ofDancer 3", x.ofDancer(d, 3), OUTSIDE);
            CHECK.due("ofDancer -1", x.ofDancer(d, -1), OUTSIDE);
        }
        CHECK.due("no dancer 4", x.ofDancer(4, 9), UNKNOWN);
        CHECK.due("no dancer -1", x.ofDancer(-1, 0), UNKNOWN);
    }

    private static void felt() {
        DancedLock x = Check.danced("l45321;0", 0, 2, 1, 3, 2, 5);
        // beat by beat: a dancer of 2, a limper of 3, a child of 2 (5 cut to half)
        Check.cells(x, 1, 0, 0, 0, 3, 3, 1, 1, 1, 2, 3);
        CHECK.due("together", x.felt(3, 0, 1, 0, 0), 1 | 8, x, 0);
        CHECK.due("limping", x.felt(3, 1, 1, 0, 0), 8, x, 0);
        CHECK.due("anew", x.felt(3, 2, 1, 0, 0), 4 | 8, x, 0);
        CHECK.due("from a later cell", x.felt(2, 1, 1, 0, 3), 2, x, 0);
        Check.cells(x, 1, 0, 1, 1, 0, 1, 1, 1, 1, 1, 1, 2, 2, 2);
        CHECK.due("beat 3 limps", x.felt(4, 3, 1, 0, 0), 2 | 4, x, 0);
        x.leave(3);
        x.dancer(2, 1);
        Check.cells(x, 1, 0, 3);
        CHECK.due("a child of 1 is not felt", x.felt(1, 0, 1, 0, 0), 0, x, 0);
    }

    private static void opens() {
        DancedLock x = Check.danced("l3111;0,1;0,0;0,0;0", 0, 1);
        Check.cells(x, 1, 1, 0, 0, 1);
        CHECK.due("the least of two", x.opens(2, 1, 1, 0), 1, x, 0);
        CHECK.due("from 1 on", x.opens(2, 1, 1, 1), 0, x, 0);
        CHECK.due("one beat", x.opens(1, 1, 1, 0), 3, x, 0);
        CHECK.due("another beat", x.opens(1, 1, 1, 2), NONE, x, 0);
        CHECK.due("as many beats alone", x.opens(3, 1, 1, 0), NONE, x, 0);
        x.change(1, 1, 4);
        CHECK.due("after a change", x.opens(2, 1, 1, 0), 2, x, 0);
    }

    private static void wrong() {
        DancedLock x = Check.danced("l3111;0,1,2;0,0,0;0", 0, 1);
        Check.cells(x, 1, 1, 0, 1, 1, 2);
        CHECK.due("at last", x.wrong(0, 1, 1, 0), 2, x, 0);
        CHECK.due("in the middle", x.wrong(1, 1, 1, 0), 1, x, 0);
        CHECK.due("at first", x.wrong(1, 1, 1, 1), 0, x, 0);
        CHECK.due("not", x.wrong(2, 1, 1, 0), NONE, x, 0);
        CHECK.due("too few cells", x.wrong(0, 1, 1, 2), -13, x, 3);
        CHECK.due("enough cells", x.wrong(2, 1, 1, 3), 0, x, 0);
        x.put(0, 99, 0);
        CHECK.due("no door", x.wrong(3, 9, 9, 9), UNKNOWN, x, 0);
        x.put(0, 99, 0);
        CHECK.due("no door -1", x.wrong(-1, 1, 1, 0), UNKNOWN, x, 0);
        CHECK.due("no sheet", x.wrong(0, 4, 9, 0), UNKNOWN, x, 0);
        CHECK.due("sort", x.wrong(0, 1, 3, 0), OUTSIDE, x, 0);
        CHECK.due("unlike", x.wrong(0, 1, 2, 9), -12, x, 2);
        CHECK.due("nothing", x.wrong(0, 2, 2, 9), -11, x, 1);
        x.put(1, 1, 3);
        CHECK.due("no board", x.wrong(0, 1, 1, 0), UNKNOWN, x, 0);
        CHECK.due("no board behind", x.wrong(2, 1, 1, 0), NONE, x, 0);
    }

    private static void refusalsOfPlans() {
        DancedLock x = Check.danced("l3111;0,1;2", 0, 1, 1, 1);
        Check.cells(x, 1, 1, 0, 1, 2, 3, -1, 0);
        CHECK.due("no sheet", x.opens(0, -1, 9, 0), UNKNOWN, x, 0);
        CHECK.due("no sheet 4", x.felt(0, 0, 4, 9, 0), UNKNOWN, x, 0);
        CHECK.due("sort 3", x.opens(1, 0, 3, 0), OUTSIDE, x, 0);
        CHECK.due("sort -1", x.felt(1, 0, 0, -1, 0), OUTSIDE, x, 0);
        CHECK.due("beats 0", x.opens(0, 0, 1, 0), OUTSIDE, x, 0);
        CHECK.due("beats 7", x.opens(7, 0, 1, 0), OUTSIDE, x, 0);
        CHECK.due("beats far", x.opens(Integer.MAX_VALUE, 1, 1, 0), OUTSIDE, x, 0);
        CHECK.due("felt beats 0", x.felt(0, 0, 0, 1, 0), OUTSIDE, x, 0);
        CHECK.due("felt beats 7", x.felt(7, 0, 0, 1, 0), OUTSIDE, x, 0);
        CHECK.due("felt k -1", x.felt(1, -1, 0, 1, 0), OUTSIDE, x, 0);
        CHECK.due("felt k 1", x.felt(1, 1, 0, 1, 0), OUTSIDE, x, 0);
        CHECK.due("unlike", x.opens(1, 1, 0, 99), -12, x, 2);
        CHECK.due("felt unlike", x.felt(1, 0, 1, 2, 99), -12, x, 2);
        CHECK.due("nothing", x.opens(1, 2, 0, 99), -11, x, 1);
        CHECK.due("felt nothing", x.felt(1, 0, 2, 0, 99), -11, x, 1);
        CHECK.due("i -1", x.opens(1, 1, 1, -1), -13, x, 3);
        CHECK.due("i beyond", x.opens(1, 1, 1, 5), -13, x, 3);
        CHECK.due("i far", x.opens(6, 1, 1, Integer.MAX_VALUE), -13, x, 3);
        CHECK.due("i just", x.opens(1, 1, 1, 0), NONE, x, 0);
        CHECK.due("felt i -1", x.felt(1, 0, 1, 1, -1), -13, x, 3);
        CHECK.due("felt i beyond", x.felt(2, 0, 1, 1, 3), -13, x, 3);
        CHECK.due("board 3", x.opens(1, 1, 1, 2), UNKNOWN, x, 0);
        CHECK.due("board -1", x.opens(1, 1, 1, 4), UNKNOWN, x, 0);
        CHECK.due("felt, no board in another beat", x.felt(2, 0, 1, 1, 0), UNKNOWN, x, 0);
        Check.cells(x, 1, 1, 0, 0, 0, 3);
        CHECK.due("no board where a limper limps", x.opens(2, 1, 1, 0), UNKNOWN, x, 0);
    }

    private static void noDancers() {
        DancedLock x = new DancedLock();
        x.sheet(0, 0, 2);
        CHECK.due("no lock", x.opens(1, 0, 0, 0), STATE, x, 0);
        CHECK.due("no lock, i at the end", x.opens(6, 0, 0, 2), STATE, x, 0);
        CHECK.due("no lock, i beyond", x.opens(1, 0, 0, 3), -13, x, 3);
        CHECK.due("no lock, felt", x.felt(1, 0, 0, 0, 0), STATE, x, 0);
        CHECK.due("no lock, felt beyond", x.felt(1, 0, 0, 0, -1), -13, x, 3);
        Check.lock(x, "l211;0;,;");
        x.sheet(1, 0, 0);
        CHECK.due("the empty dance", x.opens(1, 1, 0, 0), 2, x, 0);
        CHECK.due("of two beats", x.opens(2, 1, 0, 0), 1, x, 0);
        CHECK.due("nothing is felt", x.felt(6, 5, 1, 0, 0), 0, x, 0);
        CHECK.due("wrong 0", x.wrong(0, 1, 0, 0), 0, x, 0);
        CHECK.due("wrong 1", x.wrong(1, 1, 0, 0), NONE, x, 0);
        CHECK.due("wrong beyond", x.wrong(1, 1, 0, 1), -13, x, 3);
        CHECK.due("can 0", x.can(0), 0);
        CHECK.due("can 1", x.can(1), 1);
        CHECK.due("limped 1", x.limped(1), 1);
        CHECK.due("limped 0", x.limped(0), STATE);
        CHECK.due("plans of some", x.plans(0, 0), 0);
        CHECK.due("plans of none", x.plans(1, 0), 1);
        CHECK.due("plan of none", x.plan(1, 0, 0), UNKNOWN);
    }

    private static void planIs(DancedLock x, int door, int[][] want) {
        CHECK.due("can " + door, x.can(door), 1);
        for (int k = 0; k < want.length; k++) {
            for (int d = 0; d < want[k].length; d++) {
                CHECK.due("plan " + door + " " + k + " " + d, x.plan(door, k, d), want[k][d]);
            }
        }
    }

    private static void firstPlan() {
        DancedLock x = Check.danced("l3324;1,0,;01,2;012", 0, 2, 0, 2, 0, 1);
        // board 0 from 3 on, 1 from 2 on, 2 from 4 on
        planIs(x, 0, new int[][] {{0, 1, 1}, {0, 0, 0}, {0, 2, 1}});
        planIs(x, 1, new int[][] {{0, 1, 0}, {2, 2, 0}});
        CHECK.due("can 2", x.can(2), 0);
        CHECK.due("no plan 2", x.plan(2, 0, 0), NONE);
        CHECK.due("no door can", x.can(3), UNKNOWN);
        CHECK.due("no door can -1", x.can(-1), UNKNOWN);
        CHECK.due("no door", x.plan(3, 0, 0), UNKNOWN);
        CHECK.due("no door -1", x.plan(-1, 0, 0), UNKNOWN);
        CHECK.due("no beat", x.plan(0, 3, 0), UNKNOWN);
        CHECK.due("no beat -1", x.plan(0, -1, 0), UNKNOWN);
        CHECK.due("no beat of 2", x.plan(2, 1, 0), UNKNOWN);
        CHECK.due("no dancer", x.plan(0, 0, 3), UNKNOWN);
        CHECK.due("no dancer -1", x.plan(0, 0, -1), UNKNOWN);
    }

    private static void planOfLimpers() {
        // the limper must tread in beat 0 what beat 1 asks of it
        DancedLock x = Check.danced("l3222;0,1;01,1;0,2,1,1", 0, 2, 1, 2);
        CHECK.due("one who limps stays felt", x.can(0), 0);
        planIs(x, 1, new int[][] {{0, 1}, {1, 0}});
        CHECK.due("no step back", x.can(2), 0);
        DancedLock y = Check.danced("l3111;01,,2", 0, 1, 2, 3, 2, 1);
        CHECK.due("a child that is felt", y.can(0), 0);
        DancedLock z = Check.danced("l3111;0,0,2;0,02", 0, 1, 2, 1, 2, 1);
        planIs(z, 0, new int[][] {{0, 0, 0}, {0, 0, 0}, {2, 0, 0}});
        CHECK.due("children too light", z.can(1), 0);
    }

    private static void limped() {
        DancedLock x = Check.danced("l3222;0,1;0,0;1,1;2", 1, 2);
        CHECK.due("limps into another door", x.limped(0), 1);
        CHECK.due("limps as well", x.limped(2), 2);
        CHECK.due("one beat", x.limped(3), 3);
        x.change(1, 1, 4);
        CHECK.due("limps into none", x.limped(0), NONE);
        CHECK.due("itself", x.limped(2), 2);
        x.change(1, 1, 3);
        CHECK.due("not even plain", x.limped(1), STATE);
        CHECK.due("no door", x.limped(4), UNKNOWN);
        CHECK.due("no door -1", x.limped(-1), UNKNOWN);
        DancedLock y = Check.danced("l244;0;", 2, 4);
        CHECK.due("a child weighs half", y.limped(0), 1);
        CHECK.due("a child cannot", y.can(0), 0);
        CHECK.due("plain, it would be felt", y.limped(1), STATE);
        CHECK.due("as it is, it can", y.can(1), 1);
        CHECK.due("and it is a child again", y.felt(1, 0, 0, 2, 0), UNKNOWN);
        Check.cells(y, 0, 2, 0);
        CHECK.due("not felt", y.felt(1, 0, 0, 2, 0), 0);
    }

    private static void plans() {
        DancedLock x = Check.danced("l72222222;,0;01,0123,6", 1, 2, 1, 2, 1, 2, 1, 2);
        CHECK.due("nobody can hide", x.plans(0, 0), 0);
        CHECK.due("all on one", x.plans(0, 1), 1);
        CHECK.due("all on two", x.plans(1, 0), 14);
        CHECK.due("each on one", x.plans(1, 1), 24);
        CHECK.due("no door", x.plans(2, 0), DancedLock.LOST);
        CHECK.due("no door -1", x.plans(-1, 0), DancedLock.LOST);
        CHECK.due("no beat", x.plans(0, 2), DancedLock.LOST);
        CHECK.due("no beat -1", x.plans(0, -1), DancedLock.LOST);
        DancedLock y = Check.danced("l79999999;", 2, 1, 2, 1, 2, 1, 2, 1);
        CHECK.due("all rows", y.plans(0, 0), 2401);
        DancedLock z = Check.danced("l233;0", 2, 6, 0, 1);
        CHECK.due("a child of 3", z.plans(0, 0), 2);
    }
}
