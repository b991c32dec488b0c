/** Promises 15 to 20: family, knows, fewest, any, gone, evenings. */
public final class FamilyTest {
    private static final Check CHECK = new Check();
    private static final int UNKNOWN = DancedLock.UNKNOWN;
    private static final int OUTSIDE = DancedLock.OUTSIDE;
    private static final int NONE = DancedLock.NONE;

    public static void main(String[] args) {
        familiesCome();
        noFamilies();
        fewest();
        any();
        gone();
        evenings();
        unknownDoors();
        CHECK.end();
    }

    private static DancedLock families(String text, int... bars) {
        DancedLock x = Check.locked(text);
        for (int set : bars) {
            x.family(set);
        }
        return x;
    }

    private static void familiesCome() {
        DancedLock x = new DancedLock();
        CHECK.due("a bit ahead of state", x.family(1), OUTSIDE);
        CHECK.due("no lock", x.family(0), DancedLock.STATE);
        Check.lock(x, "l211;,;,,,,,;;0");
        CHECK.due("beat 2 of door 0", x.family(4), OUTSIDE);
        CHECK.due("beat 1 of door 2", x.family(1 << 13), OUTSIDE);
        CHECK.due("door 4", x.family(1 << 24), OUTSIDE);
        CHECK.due("all bits", x.family(-1), OUTSIDE);
        CHECK.due("a sign", x.family(Integer.MIN_VALUE), OUTSIDE);
        int all = 3 | 63 << 6 | 1 << 12 | 1 << 18;
        CHECK.due("all bars", x.family(all), 0);
        for (int f = 1; f < 6; f++) {
            CHECK.due("family " + f, x.family(1 << f + 5), f);
        }
        CHECK.due("a seventh", x.family(0), DancedLock.FULL);
        CHECK.due("a seventh outside", x.family(4), OUTSIDE);
        CHECK.due("knows 0", x.knows(0), all);
        CHECK.due("knows 5", x.knows(5), 1 << 10);
        CHECK.due("knows 6", x.knows(6), UNKNOWN);
        CHECK.due("knows -1", x.knows(-1), UNKNOWN);
    }

    private static void noFamilies() {
        DancedLock x = Check.locked("l211;,");
        CHECK.due("knows", x.knows(0), UNKNOWN);
        CHECK.due("fewest", x.fewest(0), NONE);
        CHECK.due("any", x.any(0), NONE);
        CHECK.due("gone", x.gone(0, 0), 3);
        CHECK.due("gone of none", x.gone(0, 1), OUTSIDE);
        CHECK.due("evenings", x.evenings(0), 0);
    }

    private static void fewest() {
        DancedLock x = families("l211;,,;,", 1, 2, 4, 6 | 64, 5, 128);
        CHECK.due("two of several", x.fewest(0), 1 | 8);
        CHECK.due("of another door", x.fewest(1), 8 | 32);
        DancedLock y = families("l211;,,", 3, 4, 7, 7);
        CHECK.due("one, not the least set", y.fewest(0), 4);
        DancedLock z = families("l211;,,", 3, 1, 2);
        CHECK.due("none", z.fewest(0), NONE);
        DancedLock w = families("l211;,,,,,", 1, 2, 4, 8, 16, 32);
        CHECK.due("all", w.fewest(0), 63);
    }

    private static void any() {
        DancedLock x = families("l211;,;", 3, 3, 1, 64);
        CHECK.due("of four", x.any(0), 3);
        CHECK.due("all of four", x.any(1), 4);
        DancedLock y = families("l211;,", 3, 3);
        CHECK.due("one", y.any(0), 1);
        DancedLock z = families("l211;,", 1, 1);
        CHECK.due("none", z.any(0), NONE);
    }

    private static void gone() {
        DancedLock x = families("l211;,,;,", 1 | 64, 3, 64);
        CHECK.due("none goes", x.gone(0, 0), 4);
        CHECK.due("the second goes", x.gone(0, 2), 6);
        CHECK.due("all go", x.gone(0, 7), 7);
        CHECK.due("other door", x.gone(1, 1), 2);
        CHECK.due("other door, both", x.gone(1, 5), 3);
        CHECK.due("no family", x.gone(0, 8), OUTSIDE);
        CHECK.due("a sign", x.gone(0, Integer.MIN_VALUE), OUTSIDE);
        CHECK.due("no door first", x.gone(2, 8), UNKNOWN);
    }

    private static void evenings() {
        DancedLock x = families("l211;,,,;;,", 1, 2, 4, 4096);
        CHECK.due("three known", x.evenings(0), 3);
        CHECK.due("none knows", x.evenings(1), 0);
        CHECK.due("one known", x.evenings(2), 1);
        DancedLock y = families("l211;,,,", 15, 7);
        CHECK.due("one is missing", y.evenings(0), 1);
        DancedLock z = families("l211;,,,", 5);
        CHECK.due("alone", z.evenings(0), 0);
    }

    private static void unknownDoors() {
        DancedLock x = families("l211;;", 1);
        for (int door : new int[] {-1, 2, 4, Integer.MIN_VALUE, Integer.MAX_VALUE}) {
            CHECK.due("fewest " + door, x.fewest(door), UNKNOWN);
            CHECK.due("any " + door, x.any(door), UNKNOWN);
            CHECK.due("gone " + door, x.gone(door, 0), UNKNOWN);
            CHECK.due("evenings " + door, x.evenings(door), UNKNOWN);
        }
    }
}
