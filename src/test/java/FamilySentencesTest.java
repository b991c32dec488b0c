/** Promises 15 to 20, sentence by sentence: family, knows, fewest, any, gone, evenings. */
public final class FamilySentencesTest implements Numbers {
    private static final Sentences DOC = new Sentences();
    private static final String[] NO_DOORS = {"-1", "2", "3", "4", "MIN", "MAX"};
    private static final String FOUR_DOORS = "l211;0,0,0,0,0,0;0,0,0,0,0,0;0,0,0,0,0,0;0,0,0,0,0,0";

    public static void main(String[] args) {
        family();
        familyRefused();
        knows();
        fewest();
        any();
        gone();
        evenings();
        noFamilies();
        DOC.end(15, 16, 17, 18, 19, 20);
    }

    private static void family() {
        Run x = DOC.test(15, "FAMILIES, 6 at most, numbered by how many there are ahead (the first one is 0)");
        x.locked("l211;,");
        for (int f = 0; f < 6; f++) {
            x.due("family(" + f % 4 + ")", f);
        }
        x.due("family(0)", FULL);
        x.due("family(3)", FULL);
        x.due("many(3)", 6);
        x.locked("l211;,");
        x.due("family(3)", 0);
        x.due("knows(0)", 3);

        x = DOC.test(15, "bit 6 times DOOR and BEAT (0 .. 23)");
        x.locked(FOUR_DOORS);
        x.due("family(" + ((1 << 24) - 1) + ")", 0);
        x.due("family(" + (1 << 24) + ")", OUTSIDE);
        x.due("family(" + (1 << 23) + ")", 1);
        x.due("family(" + (1 << 6) + ")", 2);
        x.due("gone(3, 1)", 31);
        x.due("gone(1, 1)", 62);
        x.due("gone(0, 1)", 63);
        x.due("gone(3, 0)", 0);
    }

    private static void familyRefused() {
        Run x = DOC.test(15, "OUTSIDE: a bit of no BEAT of a DOOR");
        x.locked(FOUR_DOORS).locked("l211;,;,,,,,;");
        int all = 3 | 63 << 6 | 1 << 12;
        for (int bit = 0; bit < 32; bit++) {
            if ((all >> bit & 1) == 0) {
                x.due("family(" + (1 << bit) + ")", OUTSIDE);
                x.due("family(" + (all | 1 << bit) + ")", OUTSIDE);
            }
        }
        x.due("family(-1)", OUTSIDE);
        x.due("family(MAX)", OUTSIDE);
        x.due("family(0)", 0);
        x.due("family(" + all + ")", 1);
        x.due("family(2)", 2);
        x.due("family(" + (1 << 11) + ")", 3);
        x.due("family(" + (1 << 12) + ")", 4);

        x = DOC.test(15, "STATE: there is no LOCK");
        x.due("family(0)", STATE);
        x.text("l211", -104);
        x.due("family(0)", STATE);
        x.text("l211;", 1);
        x.due("family(0)", 0);

        x = DOC.test(15, "OUTSIDE: a bit of no BEAT of a DOOR; STATE: there is no LOCK; FULL.");
        x.due("family(1)", OUTSIDE);
        x.due("family(-1)", OUTSIDE);
        x.due("family(MIN)", OUTSIDE);
        x.locked("l211;").families(0, 0, 0, 0, 0, 0);
        x.due("family(2)", OUTSIDE);
        x.due("family(MIN)", OUTSIDE);
        x.due("family(1)", FULL);
    }

    private static void knows() {
        Run x = DOC.test(16, "What a FAMILY knows, as a set. UNKNOWN.");
        x.due("knows(0)", UNKNOWN);
        x.locked(FOUR_DOORS).families(0, 1, 1 << 23, (1 << 24) - 1, 64, 2);
        int[] want = {0, 1, 1 << 23, (1 << 24) - 1, 64, 2};
        for (int f = 0; f < 6; f++) {
            x.due("knows(" + f + ")", want[f]);
        }
        x.due("knows(6)", UNKNOWN);
        x.locked("l211;,").families(3, 1);
        for (String f : new String[] {"-1", "2", "3", "5", "6", "MIN", "MAX"}) {
            x.due("knows(" + f + ")", UNKNOWN);
        }
        x.due("knows(1)", 1);
    }

    private static void fewest() {
        Run x = DOC.test(17, "the fewest FAMILIES who together know all its BEATS");
        x.locked("l211;,,;").families(1, 2, 4, 7);
        x.due("fewest(0)", 8);
        x.locked("l211;,,,,,").families(1, 2, 4, 8, 16, 32);
        x.due("fewest(0)", 63);
        x.locked("l211;,,;,").families(1 | 64, 6 | 128, 5, 128 | 64);
        x.due("fewest(0)", 3);
        x.due("fewest(1)", 8);

        x = DOC.test(17, "as a set: of several the least");
        x.locked("l211;,,,").families(3, 5, 10, 12);
        x.due("fewest(0)", 6);
        x.locked("l211;,,,").families(0, 15, 15, 15);
        x.due("fewest(0)", 2);
        x.locked("l211;,").families(1, 1, 2, 2);
        x.due("fewest(0)", 5);

        x = DOC.test(17, "NONE: all do not.");
        x.locked("l211;,,,,,;").families(1, 2, 4, 8, 16, 31);
        x.due("fewest(0)", NONE);
        x.due("fewest(1)", NONE);
        x.locked("l211;,;,").families(1, 64 | 128);
        x.due("fewest(0)", NONE);
        x.due("fewest(1)", 2);

        x = DOC.test(17, "FEWEST, as a set; NONE. UNKNOWN.");
        x.due("fewest(0)", UNKNOWN);
        x.locked(FOUR_DOORS).locked("l211;;").families(65);
        for (String door : NO_DOORS) {
            x.due("fewest(" + door + ")", UNKNOWN);
        }
        x.due("fewest(1)", 1);
    }

    private static void any() {
        Run x = DOC.test(18, "the least k such that any k FAMILIES together know all its BEATS");
        x.locked("l211;,;").families(3, 3, 3, 1, 1 | 64, 3);
        x.due("any(0)", 3);
        x.due("any(1)", 6);
        x.locked("l211;,").families(3);
        x.due("any(0)", 1);
        x.locked("l211;,").families(3, 3, 3, 3, 3, 3);
        x.due("any(0)", 1);
        x.locked("l211;,").families(1, 2);
        x.due("any(0)", 2);
        x.locked("l211;,,").families(3, 5, 6);
        x.due("any(0)", 2);
        x.locked("l211;;,").families(1 | 64, 1 | 128, 64);
        x.due("any(0)", 2);
        x.due("any(1)", 3);
        x.locked(FOUR_DOORS).families((1 << 24) - 1, (1 << 23) - 1, (1 << 24) - 2);
        x.due("any(0)", 2);
        x.due("any(1)", 1);
        x.due("any(2)", 1);
        x.due("any(3)", 2);

        x = DOC.test(18, "ANY: the least k such that any k FAMILIES together know all its BEATS; NONE: all do not.");
        x.locked("l211;,,,,,;").families(1, 2, 4, 8, 16, 31);
        x.due("any(0)", NONE);
        x.due("any(1)", NONE);

        x = DOC.test(18, "ANY; NONE. UNKNOWN.");
        x.due("any(0)", UNKNOWN);
        x.locked(FOUR_DOORS).locked("l211;;").families(65);
        for (String door : NO_DOORS) {
            x.due("any(" + door + ")", UNKNOWN);
        }
        x.due("any(1)", 1);
    }

    private static void gone() {
        Run x = DOC.test(19, "BEATS of a DOOR that none knows of FAMILIES that are not in a told set");
        x.locked("l211;,,;,,,,,").families(1 | 64, 3, 64 | 2048);
        x.due("gone(0, 0)", 4);
        x.due("gone(0, 1)", 4);
        x.due("gone(0, 2)", 6);
        x.due("gone(0, 3)", 7);
        x.due("gone(0, 4)", 4);
        x.due("gone(0, 7)", 7);
        x.due("gone(1, 0)", 30);
        x.due("gone(1, 1)", 30);
        x.due("gone(1, 4)", 62);
        x.due("gone(1, 5)", 63);
        x.due("gone(1, 7)", 63);

        x = DOC.test(19, "OUTSIDE: a bit of no FAMILY");
        x.locked("l211;").families(1, 1, 1, 1, 1, 1);
        x.due("gone(0, 63)", 1);
        x.due("gone(0, 64)", OUTSIDE);
        x.locked("l211;").families(1, 1);
        x.due("gone(0, 3)", 1);
        for (String families : new String[] {"4", "5", "7", "63", "-1", "MIN", "MAX"}) {
            x.due("gone(0, " + families + ")", OUTSIDE);
        }

        x = DOC.test(19, "UNKNOWN: DOOR; OUTSIDE: a bit of no FAMILY.");
        x.due("gone(0, 0)", UNKNOWN);
        x.due("gone(0, 1)", UNKNOWN);
        x.locked(FOUR_DOORS).locked("l211;;").families(65);
        for (String door : NO_DOORS) {
            x.due("gone(" + door + ", 0)", UNKNOWN);
            x.due("gone(" + door + ", 2)", UNKNOWN);
            x.due("gone(" + door + ", -1)", UNKNOWN);
        }
        x.due("gone(1, 0)", 0);
    }

    private static void evenings() {
        Run x = DOC.test(20, "after how many all know all BEATS that some know");
        x.locked("l211;,,,,,;,;").families(1, 0, 64);
        x.due("evenings(0)", 1);
        x.due("evenings(1)", 1);
        x.due("evenings(2)", 0);
        x.locked("l211;,,,,,").families(63, 63, 0);
        x.due("evenings(0)", 6);
        x.locked("l211;,,,,,").families(0, 63, 63);
        x.due("evenings(0)", 6);
        x.locked("l211;,,,,,").families(63, 63, 63);
        x.due("evenings(0)", 0);
        x.locked("l211;,,,,,").families(5);
        x.due("evenings(0)", 0);

        x = DOC.test(20, "if each FAMILY can learn one BEAT of a DOOR an evening, all at once, "
            + "from another one that knows it by then");
        x.locked("l211;,,,,,").families(1, 2, 4, 8, 16, 32);
        x.due("evenings(0)", 5);
        x.locked("l211;,,,,,").families(31, 0, 0, 0, 0, 30);
        x.due("evenings(0)", 5);
        x.locked("l211;,,,;,,").families(15 | 64, 7 | 128, 256);
        x.due("evenings(0)", 4);
        x.due("evenings(1)", 2);

        x = DOC.test(20, "EVENINGS. UNKNOWN.");
        x.due("evenings(0)", UNKNOWN);
        x.locked(FOUR_DOORS).locked("l211;;").families(65, 0);
        for (String door : NO_DOORS) {
            x.due("evenings(" + door + ")", UNKNOWN);
        }
        x.due("evenings(1)", 1);
    }

    private static void noFamilies() {
        Run x = DOC.test(17, "FEWEST, as a set; NONE.");
        x.locked("l211;,");
        x.due("fewest(0)", NONE);

        x = DOC.test(18, "ANY; NONE.");
        x.locked("l211;,");
        x.due("any(0)", NONE);

        x = DOC.test(19, "LOST, as a set.");
        x.locked("l211;,");
        x.due("gone(0, 0)", 3);
        x.due("gone(0, 1)", OUTSIDE);

        x = DOC.test(20, "EVENINGS.");
        x.locked("l211;,");
        x.due("evenings(0)", 0);
    }
}
