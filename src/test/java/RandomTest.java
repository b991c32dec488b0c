import java.util.ArrayList;
import java.util.Arrays;
import java.util.List;
import java.util.Random;

/** Small random locks against the plainest reckoning: every plan tried in its order, nothing left out. */
public final class RandomTest {
    private static final Check CHECK = new Check();
    private static final Random RANDOM = new Random(7);

    private int boards;
    private int[] needs;
    private final List<int[]> figures = new ArrayList<>();
    private int[] kinds;
    private int[] weights;
    private DancedLock lock;
    private String told;

    public static void main(String[] args) {
        // few enough beats for the plain reckoning to come to its end
        test(3000, 4, 3, 3);
        test(3000, 7, 3, 2);
        test(1500, 5, 4, 2);
        test(2000, 7, 4, 2);
        CHECK.end();
    }

    private static void test(int times, int mostBoards, int mostDancers, int mostBeats) {
        for (int time = 0; time < times; time++) {
            RandomTest test = new RandomTest();
            test.make(2 + RANDOM.nextInt(mostBoards - 1), RANDOM.nextInt(mostDancers + 1), mostBeats);
            test.check();
        }
    }

    private void make(int howManyBoards, int dancers, int mostBeats) {
        boards = howManyBoards;
        needs = RANDOM.ints(boards, 1, 7).toArray();
        StringBuilder text = new StringBuilder("l").append(boards);
        for (int need : needs) {
            text.append(need);
        }
        kinds = RANDOM.ints(dancers, 0, 3).toArray();
        weights = RANDOM.ints(dancers, 1, 10).toArray();
        int doors = 1 + RANDOM.nextInt(4);
        for (int door = 0; door < doors; door++) {
            int[] figure = new int[1 + RANDOM.nextInt(mostBeats)];
            int[] hidden = RANDOM.ints(figure.length * dancers, 0, boards).toArray();
            boolean open = RANDOM.nextBoolean();
            for (int k = 0; k < figure.length; k++) {
                figure[k] = open ? felt(hidden, k, kinds) : fewBoards();
            }
            figures.add(figure);
            append(text, figure);
        }
        lock = Check.locked(text.toString());
        for (int d = 0; d < dancers; d++) {
            lock.dancer(kinds[d], weights[d]);
        }
        told = text + " " + Arrays.toString(kinds) + Arrays.toString(weights) + " ";
    }

    private void append(StringBuilder text, int[] figure) {
        for (int k = 0; k < figure.length; k++) {
            text.append(k == 0 ? ';' : ',');
            for (int b = 0; b < boards; b++) {
                text.append((figure[k] >> b & 1) != 0 ? "" + b : "");
            }
        }
    }

    private int fewBoards() {
        int set = 0;
        for (int some = RANDOM.nextInt(5); some > 0; some--) {
            set |= 1 << RANDOM.nextInt(boards);
        }
        return set;
    }

    private void check() {
        CHECK.due(told + "doors", lock.many(1), figures.size());
        for (int door = 0; door < figures.size(); door++) {
            int[] first = firstPlan(door, kinds);
            CHECK.due(told + "can " + door, lock.can(door), first == null ? 0 : 1);
            int beats = figures.get(door).length;
            for (int k = 0; k < beats; k++) {
                for (int d = 0; d < kinds.length; d++) {
                    int want = first == null ? DancedLock.NONE : first[k * kinds.length + d];
                    CHECK.due(told + "plan " + door + " " + k + " " + d, lock.plan(door, k, d), want);
                }
                CHECK.due(told + "plans " + door + " " + k, lock.plans(door, k), rows(figures.get(door)[k]));
            }
            int[] plain = firstPlan(door, new int[kinds.length]);
            int limped = plain == null ? DancedLock.STATE : opened(plain, beats);
            CHECK.due(told + "limped " + door, lock.limped(door), limped);
            int[] some = RANDOM.ints(beats * kinds.length, 0, boards).toArray();
            judge(some, door);
            if (first != null) {
                judge(first, door);
            }
        }
    }

    private void judge(int[] plan, int door) {
        int beats = figures.get(door).length;
        Check.cells(lock, 1, 0, plan);
        CHECK.due(told + "opens", lock.opens(beats, 1, 0, 0), opened(plan, beats));
        CHECK.due(told + "wrong", lock.wrong(door, 1, 0, 0), firstWrong(plan, door, kinds));
        for (int k = 0; k < beats; k++) {
            CHECK.due(told + "felt", lock.felt(beats, k, 1, 0, 0), felt(plan, k, kinds));
        }
    }

    private int felt(int[] plan, int k, int[] asKinds) {
        int set = 0;
        for (int b = 0; b < boards; b++) {
            int weight = 0;
            for (int d = 0; d < asKinds.length; d++) {
                int beat = asKinds[d] > 0 && k % 2 == 1 ? k - 1 : k;
                if (plan[beat * asKinds.length + d] == b) {
                    weight += asKinds[d] == 2 ? weights[d] / 2 : weights[d];
                }
            }
            set |= weight >= needs[b] ? 1 << b : 0;
        }
        return set;
    }

    private int firstWrong(int[] plan, int door, int[] asKinds) {
        int[] figure = figures.get(door);
        for (int k = 0; k < figure.length; k++) {
            if (felt(plan, k, asKinds) != figure[k]) {
                return k;
            }
        }
        return DancedLock.NONE;
    }

    private int opened(int[] plan, int beats) {
        for (int door = 0; door < figures.size(); door++) {
            if (figures.get(door).length == beats && firstWrong(plan, door, kinds) == DancedLock.NONE) {
                return door;
            }
        }
        return DancedLock.NONE;
    }

    /** Counts through all plans as through numbers; a plan that is wrong in beat k goes on behind that beat's row. */
    private int[] firstPlan(int door, int[] asKinds) {
        int[] plan = new int[figures.get(door).length * asKinds.length];
        while (true) {
            int wrong = firstWrong(plan, door, asKinds);
            if (wrong == DancedLock.NONE) {
                return plan;
            }
            int at = (wrong + 1) * asKinds.length - 1;
            Arrays.fill(plan, at + 1, plan.length, 0);
            while (at >= 0 && plan[at] == boards - 1) {
                plan[at] = 0;
                at--;
            }
            if (at < 0) {
                return null;
            }
            plan[at]++;
        }
    }

    private long rows(int figure) {
        long rows = 0;
        int[] row = new int[kinds.length];
        int all = (int) Math.pow(boards, kinds.length);
        for (int number = 0; number < all; number++) {
            int rest = number;
            for (int d = 0; d < row.length; d++) {
                row[d] = rest % boards;
                rest /= boards;
            }
            rows += felt(row, 0, kinds) == figure ? 1 : 0;
        }
        return rows;
    }
}
