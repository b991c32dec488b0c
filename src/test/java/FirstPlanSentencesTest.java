/** Promises 12 to 14 and 26, sentence by sentence: can, plan, limped, plans. */
public final class FirstPlanSentencesTest implements Numbers {
    private static final Sentences DOC = new Sentences();

    public static void main(String[] args) {
        can();
        canNot();
        plan();
        planOfLimpers();
        planOfMost();
        planRefused();
        limped();
        limpedRefused();
        plans();
        DOC.end(12, 13, 14, 26);
    }

    private static void can() {
        Run x = DOC.test(12, "CAN (1, 0).");
        x.locked("l3345;0;01;012;").dancers(0, 3);
        x.due("can(0)", 1);
        x.due("can(1)", 0);
        x.due("can(3)", 1);
        x.due("dancer(0, 4)", 1);
        x.due("can(1)", 1);
        x.due("can(2)", 0);
        x.due("dancer(1, 5)", 2);
        x.due("can(2)", 1);
        x.due("can(3)", 0);
        x.due("leave(3)", 0);
        x.due("can(0)", 0);
        x.due("can(3)", 1);

        x = DOC.test(12, "in each BEAT of a DOOR just the BOARDS of its FIGURE are FELT");
        x.locked("l3115;0,1,0,1,0,01;01,0,0,0,0,0;0,0,0,0,0,2").dancers(0, 4);
        x.due("can(0)", 0);
        x.due("can(1)", 0);
        x.due("can(2)", 0);
        x.due("change(0, 5, 1)", 3);
        x.due("change(1, 0, 1)", 3);
        x.due("can(0)", 1);
        x.due("can(1)", 1);
        x.due("can(2)", 0);
        x.due("dancer(0, 1)", 1);
        x.due("can(2)", 1);

        x = DOC.test(12, "weigh as much as told together, or more");
        x.locked("l299;0").dancers(0, 4, 0, 4);
        x.due("can(0)", 0);
        x.due("dancer(2, 1)", 2);
        x.due("can(0)", 0);
        x.due("dancer(2, 2)", 3);
        x.due("can(0)", 1);
        x.due("leave(1)", 3);
        x.due("dancer(0, 1)", 3);
        x.due("can(0)", 1);
    }

    private static void canNot() {
        Run x = DOC.test(12, "CAN (1, 0). UNKNOWN.");
        x.due("can(0)", UNKNOWN);
        x.locked("l211;;;;").locked("l211;;");
        x.due("can(1)", 1);
        for (String door : new String[] {"-1", "2", "3", "4", "MIN", "MAX"}) {
            x.due("can(" + door + ")", UNKNOWN);
        }

        x = DOC.test(12, "a LIMPER (a CHILD, too) in BEATS 1, 3, 5 the one of the BEAT ahead");
        x.locked("l211;0,1;0,0,1,1,0,0;0,0,0,1,1,1;,,,,,0").dancers(1, 1);
        x.due("can(0)", 0);
        x.due("can(1)", 1);
        x.due("can(2)", 0);
        x.due("can(3)", 0);
        x.due("leave(1)", 0);
        x.dancers(2, 2);
        x.due("can(0)", 0);
        x.due("can(1)", 1);
        x.due("can(2)", 0);
        x.due("leave(1)", 0);
        x.dancers(0, 1);
        x.due("can(0)", 1);
        x.due("can(1)", 1);
        x.due("can(2)", 1);
    }

    private static void plan() {
        Run x = DOC.test(13, "of several the first as a row of BOARDS (BEAT by BEAT, DANCER by DANCER)");
        x.locked("l3199;0;;1,0;01,02,12").dancers(0, 1, 0, 1, 0, 9);
        x.planIs(0, new int[] {0, 0, 0});
        x.due("can(1)", 0);
        x.planIs(2, new int[] {1, 1, 1}, new int[] {0, 0, 0});
        x.due("plan(3, 0, 0)", NONE);
        x.due("change(3, 2, 5)", 6);
        x.planIs(3, new int[] {0, 0, 1}, new int[] {0, 0, 2}, new int[] {0, 0, 2});
        x.due("leave(1)", 2);
        x.planIs(0, new int[] {0, 0});
        x.planIs(1, new int[] {1, 1});

        x = DOC.test(13, "the BOARD of a DANCER in the k-th BEAT");
        x.locked("l71111111;6,5,4,3,2,1;0123,3456,0246,1356,0145,2346").dancers(0, 1, 0, 1, 0, 1, 0, 1);
        x.planIs(0, new int[] {6, 6, 6, 6}, new int[] {5, 5, 5, 5}, new int[] {4, 4, 4, 4}, new int[] {3, 3, 3, 3},
            new int[] {2, 2, 2, 2}, new int[] {1, 1, 1, 1});
        x.planIs(1, new int[] {0, 1, 2, 3}, new int[] {3, 4, 5, 6}, new int[] {0, 2, 4, 6}, new int[] {1, 3, 5, 6},
            new int[] {0, 1, 4, 5}, new int[] {2, 3, 4, 6});
        x.due("change(1, 5, 12)", 92);
        x.due("plan(1, 5, 0)", 2);
        x.due("plan(1, 5, 2)", 2);
        x.due("plan(1, 5, 3)", 3);
    }

    private static void planOfLimpers() {
        Run x = DOC.test(13, "a LIMPER (a CHILD, too) in BEATS 1, 3, 5 the one of the BEAT ahead");
        // what a limper is told in an odd beat is not danced: the first row says 0
        x.locked("l3199;0,,0,,0,;0,0,1,0").dancers(1, 1, 0, 1);
        x.planIs(0, new int[] {1, 0}, new int[] {0, 1}, new int[] {1, 0}, new int[] {0, 1}, new int[] {1, 0},
            new int[] {0, 1});
        x.due("can(1)", 0);
        x.due("change(1, 2, 0)", 2);
        x.planIs(1, new int[] {0, 0}, new int[] {0, 0}, new int[] {1, 1}, new int[] {0, 0});
        x.due("leave(2)", 0);
        x.dancers(0, 1, 2, 3);
        x.planIs(0, new int[] {0, 1}, new int[] {1, 0}, new int[] {0, 1}, new int[] {1, 0}, new int[] {0, 1},
            new int[] {1, 0});
        x.due("leave(1)", 1);
        x.due("dancer(2, 1)", 1);
        x.planIs(0, new int[] {0, 0}, new int[] {1, 0}, new int[] {0, 0}, new int[] {1, 0}, new int[] {0, 0},
            new int[] {1, 0});
    }

    private static void planOfMost() {
        Run x = DOC.test(13, "the PLAN: of several the first");
        // each must tread the last board of seven, so that all other rows fail ahead of this one
        x.locked("l79999999;6,6,6,6,6,6;0,6;6,0").dancers(1, 2, 2, 4, 1, 2, 1, 3);
        int[] last = {6, 6, 6, 6};
        int[] limped = {0, 0, 0, 0};
        x.planIs(0, last, limped, last, limped, last, limped);
        x.due("can(1)", 0);
        x.due("can(2)", 0);
        x.due("leave(4)", 0);
        x.dancers(0, 2, 0, 2, 0, 2, 0, 3);
        x.planIs(0, last, last, last, last, last, last);
        x.planIs(1, limped, last);
        x.planIs(2, last, limped);
        // no limper may tread 0, nor the second one 1 with the first: many rows dance beat 0 and fail in beat 1
        x.locked("l41391;0,3").dancers(0, 1, 1, 1, 1, 2, 1, 1);
        x.planIs(0, new int[] {0, 1, 2, 1}, new int[] {3, 0, 0, 0});
    }

    private static void planRefused() {
        Run x = DOC.test(13, "NONE: it can't be.");
        x.locked("l255;0,1;01").dancers(0, 2, 0, 2);
        x.due("plan(0, 0, 0)", NONE);
        x.due("plan(0, 1, 1)", NONE);
        x.due("plan(1, 0, 1)", NONE);
        x.due("dancer(0, 1)", 2);
        x.due("plan(0, 0, 2)", 0);
        x.due("plan(0, 1, 0)", 1);
        x.due("plan(1, 0, 0)", NONE);

        x = DOC.test(13, "NONE: it can't be. UNKNOWN: DOOR, BEAT, DANCER.");
        x.due("plan(0, 0, 0)", UNKNOWN);
        x.locked("l211;0,0,0,0,0,0;0;0;0").dancers(0, 1, 0, 1, 0, 1, 0, 1);
        x.locked("l299;0,0;").dancers(0, 1, 0, 1, 0, 1, 0, 1);
        x.due("leave(2)", 2);
        x.due("plan(0, 0, 0)", NONE);
        x.due("plan(1, 0, 1)", 0);
        for (String no : new String[] {"-1", "2", "3", "4", "6", "MIN", "MAX"}) {
            x.due("plan(" + no + ", 0, 0)", UNKNOWN);
            x.due("plan(0, " + no + ", 0)", UNKNOWN);
            x.due("plan(0, 0, " + no + ")", UNKNOWN);
            x.due("plan(1, 0, " + no + ")", UNKNOWN);
        }
        x.due("plan(1, 1, 0)", UNKNOWN);
        x.due("leave(2)", 0);
        x.due("plan(1, 0, 0)", UNKNOWN);
    }

    private static void limped() {
        Run x = DOC.test(14, "as if all were of kind 0 (with their weights whole), is danced by them as they are");
        x.locked("l244;0;;1").dancers(2, 4);
        x.due("limped(0)", 1);
        x.due("limped(1)", STATE);
        x.due("limped(2)", 1);
        x.due("can(0)", 0);
        x.due("can(1)", 1);
        x.due("leave(1)", 0);
        x.dancers(2, 8);
        x.due("limped(0)", 0);
        x.due("limped(2)", 2);
        x.due("leave(1)", 0);
        x.dancers(2, 7);
        x.due("limped(0)", 1);

        x = DOC.test(14, "LIMPED; NONE: it OPENS none.");
        x.locked("l3111;0,1;0,0;0,0,1,2;0,0,1,1").dancers(1, 1);
        x.due("limped(0)", 1);
        x.due("limped(1)", 1);
        x.due("limped(2)", 3);
        x.due("limped(3)", 3);
        x.due("change(1, 0, 2)", 1);
        x.due("limped(0)", NONE);
        x.due("limped(1)", NONE);
        x.due("change(3, 3, 4)", 2);
        x.due("limped(2)", NONE);
        x.due("leave(1)", 0);
        x.dancers(0, 1);
        x.due("limped(0)", 0);
        x.due("limped(1)", 1);
        x.due("limped(2)", 2);

        x = DOC.test(14, "which DOOR it OPENS");
        x.locked("l211;0,0;0,0;0,1;0").dancers(1, 1);
        x.due("limped(2)", 0);
        x.due("limped(1)", 0);
        x.due("change(0, 1, 0)", 1);
        x.due("limped(2)", 1);
        x.due("limped(3)", 3);
        x.due("leave(1)", 0);
        x.due("change(3, 0, 0)", 1);
        x.due("limped(3)", 3);
    }

    private static void limpedRefused() {
        Run x = DOC.test(14, "UNKNOWN; STATE: there is no such PLAN.");
        x.due("limped(0)", UNKNOWN);
        x.locked("l255;;;;").locked("l255;0;;01").dancers(2, 5);
        for (String door : new String[] {"-1", "3", "4", "MIN", "MAX"}) {
            x.due("limped(" + door + ")", UNKNOWN);
        }
        x.due("limped(0)", 1);
        x.due("limped(1)", STATE);
        x.due("limped(2)", STATE);
        x.due("leave(1)", 0);
        x.due("limped(0)", STATE);
        x.due("limped(1)", 1);
    }

    private static void plans() {
        Run x = DOC.test(26, "How many rows of BOARDS there are, one for each DANCER");
        x.locked("l79999999;,0").dancers(0, 1, 1, 1, 2, 1, 0, 1);
        int[] rows = {1, 7, 49, 343, 2401};
        for (int dancers = 4; dancers > 0; dancers--) {
            x.due("plans(0, 0)", rows[dancers]);
            x.due("plans(0, 1)", 0);
            x.due("leave(1)", dancers - 1);
        }
        x.due("plans(0, 0)", 1);
        x.due("plans(0, 1)", 0);
        x.locked("l3111;0,01,012").dancers(0, 1, 0, 1);
        x.due("plans(0, 0)", 1);
        x.due("plans(0, 1)", 2);
        x.due("plans(0, 2)", 0);

        x = DOC.test(26, "by which, as BEAT 0, a BEAT of a DOOR is danced");
        x.locked("l3112;1,0,1,0,2,;2").dancers(1, 1, 2, 2, 2, 1);
        for (int k = 0; k < 4; k++) {
            // the child of 1 may stand anywhere, unfelt; the two others on one board, or one of them unfelt on 2
            x.due("plans(0, " + k + ")", 9);
        }
        x.due("plans(0, 4)", 3);
        x.due("plans(0, 5)", 0);
        x.due("plans(1, 0)", 3);

        x = DOC.test(26, "LOST: UNKNOWN.");
        x.due("plans(0, 0)", LOST);
        x.locked("l211;0,0,0,0,0,0;0;0;0").locked("l211;,;0");
        for (String no : new String[] {"-1", "2", "3", "4", "6", "MIN", "MAX"}) {
            x.due("plans(" + no + ", 0)", LOST);
            x.due("plans(0, " + no + ")", LOST);
        }
        x.due("plans(1, 1)", LOST);
        x.due("plans(0, 1)", 1);
    }
}
