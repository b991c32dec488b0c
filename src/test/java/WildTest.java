import java.util.Random;

/** Any calls with any numbers: none of them may throw, and the state keeps within its bounds. */
public final class WildTest {
    private static final Check CHECK = new Check();
    private static final Random RANDOM = new Random(11);
    private static final String[] TEXTS = {
        "l71234567;0123,3456,,0,1,2;6;,,;01", "l211;0,1;,1", "l49999;0,1,2,3;;;", "l3111;0;1;3", "l211",
    };

    public static void main(String[] args) {
        for (int run = 0; run < 400; run++) {
            DancedLock x = new DancedLock();
            for (int call = 0; call < 512; call++) {
                if (RANDOM.nextInt(60) == 0) {
                    Check.lock(x, TEXTS[RANDOM.nextInt(TEXTS.length)]);
                }
                wildCall(x, RANDOM.nextInt(37));
                withinBounds(x);
            }
        }
        CHECK.end();
    }

    private static int any() {
        switch (RANDOM.nextInt(24)) {
            case 0: return Integer.MIN_VALUE;
            case 1: return Integer.MAX_VALUE;
            case 2: return RANDOM.nextInt();
            case 3: return -1 - RANDOM.nextInt(3);
            case 4: return RANDOM.nextInt(100);
            default: return RANDOM.nextInt(7);
        }
    }

    private static void withinBounds(DancedLock x) {
        int[] most = {7, 4, 4, 6};
        for (int what = 0; what < 4; what++) {
            int many = x.many(what);
            if (many < 0 || many > most[what]) {
                CHECK.due("many " + what, many, most[what]);
            }
        }
        if (x.fault() < 0 || x.fault() > 4) {
            CHECK.due("fault", x.fault(), 4);
        }
    }

    private static void wildCall(DancedLock x, int which) {
        switch (which) {
            case 0: x.lock(any(), any(), any(), any()); break;
            case 1: x.board(any()); break;
            case 2: x.beat(any(), any()); break;
            case 3: x.change(any(), any(), any()); break;
            case 4: case 5: x.dancer(any(), any()); break;
            case 6: x.ofDancer(any(), any()); break;
            case 7: x.leave(any()); break;
            case 8: x.opens(any(), any(), any(), any()); break;
            case 9: x.felt(any(), any(), any(), any(), any()); break;
            case 10: x.wrong(any(), any(), any(), any()); break;
            case 11: x.can(any()); break;
            case 12: x.plan(any(), any(), any()); break;
            case 13: x.limped(any()); break;
            case 14: x.family(any()); break;
            case 15: x.knows(any()); break;
            case 16: x.fewest(any()); break;
            case 17: x.any(any()); break;
            case 18: x.gone(any(), any()); break;
            case 19: x.evenings(any()); break;
            case 20: x.seen(any(), any(), any(), any(), any()); break;
            case 21: x.part(any(), any(), any(), any()); break;
            case 22: x.apart(any(), any()); break;
            case 23: x.nearest(any()); break;
            case 24: x.safe(); break;
            case 25: x.plans(any(), any()); break;
            case 26: case 27: x.sheet(any(), any(), any()); break;
            case 28: x.lose(any()); break;
            case 29: case 30: x.put(any(), any(), any()); break;
            case 31: x.cell(any(), any(), any()); break;
            case 32: x.copy(any(), any(), any(), any(), any()); break;
            case 33: x.tell(any()); break;
            case 34: x.lead(any()); break;
            case 35: x.as(any(), any()); break;
            default: x.trace(); break;
        }
    }
}
