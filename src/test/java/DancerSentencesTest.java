/** Promises 6 to 8 and 32 to 35, sentence by sentence: dancers who come, leave, are told, led and taken as a kind. */
public final class DancerSentencesTest implements Numbers {
    private static final Sentences DOC = new Sentences();
    private static final String[] NO_KINDS = {"-1", "3", "MIN", "MAX"};

    public static void main(String[] args) {
        dancer();
        dancerRefused();
        ofDancer();
        leave();
        tell();
        lead();
        as();
        trace();
        DOC.end(6, 7, 8, 32, 33, 34, 35);
    }

    private static void dancer() {
        Run x = DOC.test(6, "DANCERS, 4 at most, numbered by how many there are ahead (the first one is 0)");
        x.locked("l211;");
        for (int d = 0; d < 4; d++) {
            x.due("dancer(" + d % 3 + ", " + (d + 1) + ")", d);
        }
        x.due("dancer(0, 1)", FULL);
        x.due("leave(1)", 3);
        x.due("dancer(1, 9)", 3);
        x.due("dancer(0, 1)", FULL);
        x.due("leave(4)", 0);
        x.due("dancer(2, 3)", 0);

        x = DOC.test(6, "each of a kind and a weight (1 .. 9)");
        x.locked("l211;");
        for (String weight : new String[] {"0", "10", "-1", "MIN", "MAX"}) {
            x.due("dancer(0, " + weight + ")", OUTSIDE);
        }
        x.due("dancer(0, 1)", 0);
        x.due("dancer(0, 9)", 1);
        x.due("ofDancer(0, 1)", 1);
        x.due("ofDancer(1, 1)", 9);

        x = DOC.test(6, "Kinds: 0 DANCER; 1 LIMPER, a DANCER; 2 CHILD, a LIMPER.");
        x.locked("l211;");
        for (String kind : NO_KINDS) {
            x.due("dancer(" + kind + ", 1)", OUTSIDE);
        }
        for (int kind = 0; kind < 3; kind++) {
            x.due("dancer(" + kind + ", 1)", kind);
            x.due("ofDancer(" + kind + ", 0)", kind);
        }
    }

    private static void dancerRefused() {
        Run x = DOC.test(6, "STATE: there is no LOCK");
        x.due("dancer(0, 1)", STATE);
        x.due("dancer(2, 9)", STATE);
        x.text("l211", -104);
        x.due("dancer(0, 1)", STATE);
        x.text("l211;", 1);
        x.due("dancer(0, 1)", 0);

        x = DOC.test(6, "OUTSIDE: kind, weight; STATE: there is no LOCK; FULL.");
        x.due("dancer(3, 1)", OUTSIDE);
        x.due("dancer(0, 10)", OUTSIDE);
        x.due("dancer(-1, 0)", OUTSIDE);
        x.locked("l211;").dancers(0, 1, 0, 2, 0, 3, 0, 4);
        x.due("dancer(3, 1)", OUTSIDE);
        x.due("dancer(-1, 1)", OUTSIDE);
        x.due("dancer(0, 0)", OUTSIDE);
        x.due("dancer(0, 10)", OUTSIDE);
        x.due("dancer(0, 1)", FULL);
    }

    private static void ofDancer() {
        Run x = DOC.test(7, "0 kind, 1 weight, 2 what it weighs on a BOARD");
        x.locked("l211;").dancers(0, 9, 1, 7, 2, 5, 2, 8);
        int[][] want = {{0, 9, 9}, {1, 7, 7}, {2, 5, 2}, {2, 8, 4}};
        for (int d = 0; d < want.length; d++) {
            for (int what = 0; what < 3; what++) {
                x.due("ofDancer(" + d + ", " + what + ")", want[d][what]);
            }
        }

        x = DOC.test(7, "It weighs what it weighs; a CHILD half of that (cut).");
        x.locked("l211;");
        for (int weight = 1; weight <= 9; weight++) {
            for (int kind = 0; kind < 3; kind++) {
                x.due("dancer(" + kind + ", " + weight + ")", kind);
                x.due("ofDancer(" + kind + ", 2)", kind == 2 ? weight / 2 : weight);
            }
            x.due("leave(3)", 0);
        }

        x = DOC.test(7, "UNKNOWN; OUTSIDE.");
        x.due("ofDancer(0, 0)", UNKNOWN);
        x.locked("l211;").dancers(0, 1, 0, 2, 0, 3, 0, 4);
        x.due("leave(2)", 2);
        for (String d : new String[] {"-1", "2", "3", "4", "MIN", "MAX"}) {
            x.due("ofDancer(" + d + ", 0)", UNKNOWN);
            x.due("ofDancer(" + d + ", 3)", UNKNOWN);
        }
        for (String what : new String[] {"-1", "3", "MIN", "MAX"}) {
            x.due("ofDancer(1, " + what + ")", OUTSIDE);
        }
        x.due("ofDancer(1, 1)", 2);
    }

    private static void leave() {
        Run x = DOC.test(8, "The last k DANCERS (0 .. as many as there are) leave: how many are left.");
        x.due("leave(0)", 0);
        x.locked("l211;").dancers(0, 1, 1, 2, 2, 3, 0, 4);
        x.due("leave(0)", 4);
        x.due("leave(1)", 3);
        x.due("ofDancer(2, 1)", 3);
        x.due("ofDancer(3, 1)", UNKNOWN);
        x.due("leave(2)", 1);
        x.due("ofDancer(0, 1)", 1);
        x.due("many(2)", 1);
        x.due("leave(1)", 0);
        x.due("leave(0)", 0);
        x.dancers(0, 1, 1, 2, 2, 3, 0, 4);
        x.due("leave(4)", 0);

        x = DOC.test(8, "how many are left. OUTSIDE.");
        x.due("leave(1)", OUTSIDE);
        x.due("leave(-1)", OUTSIDE);
        x.locked("l211;").dancers(0, 1, 1, 2);
        for (String k : new String[] {"-1", "3", "4", "MIN", "MAX"}) {
            x.due("leave(" + k + ")", OUTSIDE);
        }
        x.due("leave(2)", 0);
        x.due("leave(1)", OUTSIDE);
    }

    private static void tell() {
        Run x = DOC.test(32, "DANCER (1): its weight.");
        x.locked("l211;").dancers(0, 1, 0, 9);
        x.due("tell(0)", 1);
        x.due("trace()", 1);
        x.due("tell(1)", 9);
        x.due("trace()", 32);

        x = DOC.test(32, "LIMPER (2): what DANCER's gives, and 100.");
        x.locked("l211;").dancers(1, 1, 1, 9);
        x.due("tell(0)", 101);
        x.due("trace()", 2 * 31 + 1);
        x.due("tell(1)", 109);

        x = DOC.test(32, "CHILD (3): what LIMPER's gives, and what DANCER's gives (LIMPER's left out).");
        x.locked("l211;").dancers(2, 1, 2, 9);
        x.due("tell(0)", 102);
        x.due("trace()", ((3 * 31 + 2) * 31 + 1) * 31 + 1);
        x.due("tell(1)", 118);

        x = DOC.test(32, "TELLING of a DANCER. UNKNOWN.");
        x.due("tell(0)", UNKNOWN);
        x.locked("l211;").dancers(0, 1, 1, 2, 2, 3, 0, 4);
        x.due("leave(1)", 3);
        for (String d : new String[] {"-1", "3", "4", "MIN", "MAX"}) {
            x.due("tell(" + d + ")", UNKNOWN);
        }
        x.due("trace()", 0);
        x.due("tell(2)", 106);
    }

    private static void lead() {
        Run x = DOC.test(33, "LED by a lent body (4): the own number of the one that is told, its place in its list");
        x.locked("l211;").dancers(0, 5, 1, 6, 1, 7, 0, 8);
        int trace = 0;
        for (int d = 0; d < 4; d++) {
            x.due("lead(" + d + ")", d);
            trace = 31 * trace + 4;
            x.due("trace()", trace);
        }

        x = DOC.test(33, "CHILDREN have their own (5): 60.");
        x.locked("l211;").dancers(2, 9, 0, 1, 1, 1, 2, 1);
        x.due("lead(0)", 60);
        x.due("trace()", 5);
        x.due("lead(3)", 60);
        x.due("trace()", 160);

        x = DOC.test(33, "How it is LED. UNKNOWN.");
        x.due("lead(0)", UNKNOWN);
        x.locked("l211;").dancers(0, 1, 1, 2, 2, 3, 2, 4);
        x.due("leave(1)", 3);
        for (String d : new String[] {"-1", "3", "4", "MIN", "MAX"}) {
            x.due("lead(" + d + ")", UNKNOWN);
        }
        x.due("trace()", 0);
        x.due("lead(2)", 60);
    }

    private static void as() {
        Run x = DOC.test(34, "CAST: it is none (each is a DANCER, too; a CHILD is a LIMPER).");
        x.locked("l211;").dancers(0, 1, 1, 1, 2, 1);
        for (int d = 0; d < 3; d++) {
            for (int kind = 0; kind < 3; kind++) {
                if (kind <= d) {
                    x.due("as(" + d + ", " + kind + ")", 1);
                } else {
                    x.fault("as(" + d + ", " + kind + ")", CAST);
                }
            }
        }
        x.due("ofDancer(2, 0)", 2);

        x = DOC.test(34, "taken as one of a kind: 1. UNKNOWN; OUTSIDE; CAST: it is none");
        x.due("as(0, 0)", UNKNOWN);
        x.locked("l211;").dancers(0, 1, 2, 1, 2, 2);
        x.due("leave(1)", 2);
        for (String d : new String[] {"-1", "2", "3", "4", "MIN", "MAX"}) {
            x.due("as(" + d + ", 0)", UNKNOWN);
            x.due("as(" + d + ", 1)", UNKNOWN);
            x.due("as(" + d + ", 3)", UNKNOWN);
            x.due("as(" + d + ", -1)", UNKNOWN);
        }
        for (String kind : NO_KINDS) {
            x.due("as(0, " + kind + ")", OUTSIDE);
            x.due("as(1, " + kind + ")", OUTSIDE);
        }
        x.fault("as(0, 1)", CAST);
    }

    private static void trace() {
        Run x = DOC.test(35, "TRACE (an int that wraps, 0 at first, becomes 31 times it and the number) as they begin");
        x.due("trace()", 0);
        x.locked("l211;").dancers(2, 9, 0, 1);
        int trace = 0;
        for (int time = 0; time < 10; time++) {
            for (int number : new int[] {3, 2, 1, 1, 5, 1, 4}) {
                trace = 31 * trace + number;
            }
            x.due("tell(0)", 118);
            x.due("lead(0)", 60);
            x.due("tell(1)", 1);
            x.due("lead(1)", 1);
            x.due("trace()", trace);
        }
    }
}
