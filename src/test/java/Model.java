import java.util.ArrayList;
import java.util.Arrays;
import java.util.Collections;
import java.util.List;
import java.util.function.LongSupplier;
import java.util.function.Predicate;
import java.util.regex.Matcher;
import java.util.regex.Pattern;
import java.util.stream.Collectors;
import java.util.stream.IntStream;

/**
 * The document told once more, promise by promise, as plainly as it can be and without a thought to the time that it
 * takes: what the class answers is held against it. Each method is that of the public face.
 */
final class Model implements Numbers {
    private static final int PLAIN = 0, LIMPER = 1, CHILD = 2;
    /** All texts of 2 to 7 boards. */
    private static final List<Pattern> TEXTS = IntStream.rangeClosed(2, 7).mapToObj(Model::texts).toList();

    private record Dancer(int kind, int weight) {
        int weighs() {
            return kind == CHILD ? weight / 2 : weight;
        }

        boolean limps() {
            return kind != PLAIN;
        }
    }

    private record Row(int sort, int[] cells) { }

    private static final class Refused extends RuntimeException {
        private static final long serialVersionUID = 1;
        private final int answer;

        Refused(int answer) {
            this.answer = answer;
        }
    }

    private static final class Fault extends RuntimeException {
        private static final long serialVersionUID = 1;
        private final int number;

        Fault(int number) {
            this.number = number;
        }
    }

    private List<Integer> needs = List.of();
    private List<List<Integer>> doors = List.of();
    private final List<Dancer> dancers = new ArrayList<>();
    private final List<Integer> families = new ArrayList<>();
    private final Row[] sheets = new Row[4];
    private int traced;
    private int fault;

    // ---- promises 2 to 5

    long lock(int sheet, int sort, int i, int n) {
        return naming(() -> {
            refuse(isSheet(sheet), UNKNOWN);
            refuse(isSort(sort), OUTSIDE);
            String text = Arrays.stream(taken(sheet, sort, i, n))
                .mapToObj(code -> code >= 0 && code < 128 ? "" + (char) code : "?").collect(Collectors.joining());
            int place = firstFault(text);
            refuse(place < 0, -100 - place);
            needs = text.substring(2, 2 + text.charAt(1) - '0').chars().mapToObj(code -> code - '0').toList();
            doors = new ArrayList<>();
            for (String figure : text.substring(3 + needs.size()).split(";", -1)) {
                doors.add(new ArrayList<>(Arrays.stream(figure.split(",", -1)).map(Model::set).toList()));
            }
            dancers.clear();
            families.clear();
            return doors.size();
        });
    }

    /** The first code with which no text goes on; how many there are, if more are wanted; -1, if it is a text. */
    private static int firstFault(String text) {
        for (int place = 0; place < text.length(); place++) {
            int end = place + 1;
            if (IntStream.rangeClosed(2, 7).noneMatch(n -> goesOn(TEXTS.get(n - 2).matcher(text.substring(0, end))))) {
                return place;
            }
        }
        return TEXTS.stream().anyMatch(texts -> texts.matcher(text).matches()) ? -1 : text.length();
    }

    private static boolean goesOn(Matcher matcher) {
        return matcher.matches() || matcher.hitEnd();
    }

    /** All texts of n boards: a beat is one of the sets of at most four of them. */
    private static Pattern texts(int n) {
        String beat = IntStream.range(0, 1 << n).filter(set -> Integer.bitCount(set) <= 4)
            .mapToObj(set -> IntStream.range(0, n).filter(b -> (set >> b & 1) != 0).mapToObj(b -> "" + b)
                .collect(Collectors.joining())).collect(Collectors.joining("|", "(?:", ")"));
        String figure = beat + "(?:," + beat + "){0,5}";
        return Pattern.compile("l" + n + "[1-9]{" + n + "}(?:;" + figure + "){1,4}");
    }

    private static int set(String digits) {
        return digits.chars().map(code -> 1 << code - '0').sum();
    }

    long board(int b) {
        return asked(() -> {
            refuse(isBoard(b), UNKNOWN);
            return needs.get(b);
        });
    }

    long beat(int door, int k) {
        return asked(() -> {
            refuse(isDoor(door), UNKNOWN);
            refuse(k == -1 || isBeat(door, k), UNKNOWN);
            return k == -1 ? doors.get(door).size() : doors.get(door).get(k);
        });
    }

    long change(int door, int k, int boards) {
        return asked(() -> {
            refuse(isDoor(door) && isBeat(door, k), UNKNOWN);
            refuse(isOf(boards, needs.size()) && Integer.bitCount(boards) <= 4, OUTSIDE);
            return doors.get(door).set(k, boards);
        });
    }

    // ---- promises 6 to 14

    long dancer(int kind, int weight) {
        return asked(() -> {
            refuse(kind >= 0 && kind <= 2 && weight >= 1 && weight <= 9, OUTSIDE);
            refuse(!doors.isEmpty(), STATE);
            refuse(dancers.size() < 4, FULL);
            dancers.add(new Dancer(kind, weight));
            return dancers.size() - 1;
        });
    }

    long ofDancer(int d, int what) {
        return asked(() -> {
            refuse(isDancer(d), UNKNOWN);
            refuse(what >= 0 && what <= 2, OUTSIDE);
            Dancer dancer = dancers.get(d);
            return List.of(dancer.kind, dancer.weight, dancer.weighs()).get(what);
        });
    }

    long leave(int k) {
        return asked(() -> {
            refuse(k >= 0 && k <= dancers.size(), OUTSIDE);
            dancers.subList(dancers.size() - k, dancers.size()).clear();
            return dancers.size();
        });
    }

    long opens(int beats, int sheet, int sort, int i) {
        return naming(() -> {
            refuse(isSheet(sheet), UNKNOWN);
            refuse(isSort(sort) && beats >= 1 && beats <= 6, OUTSIDE);
            return opened(planTaken(beats, sheet, sort, i));
        });
    }

    long felt(int beats, int k, int sheet, int sort, int i) {
        return naming(() -> {
            refuse(isSheet(sheet), UNKNOWN);
            refuse(isSort(sort) && beats >= 1 && beats <= 6 && k >= 0 && k < beats, OUTSIDE);
            return felt(planTaken(beats, sheet, sort, i), k, dancers);
        });
    }

    long wrong(int door, int sheet, int sort, int i) {
        return naming(() -> {
            refuse(isDoor(door), UNKNOWN);
            refuse(isSheet(sheet), UNKNOWN);
            refuse(isSort(sort), OUTSIDE);
            List<Integer> figure = doors.get(door);
            int[][] plan = planTaken(figure.size(), sheet, sort, i);
            return IntStream.range(0, plan.length).filter(k -> felt(plan, k, dancers) != figure.get(k)).findFirst().orElse(NONE);
        });
    }

    private int[][] planTaken(int beats, int sheet, int sort, int i) {
        int[] cells = taken(sheet, sort, i, beats * dancers.size());
        refuse(!doors.isEmpty(), STATE);
        refuse(Arrays.stream(cells).allMatch(this::isBoard), UNKNOWN);
        int[][] plan = new int[beats][dancers.size()];
        for (int at = 0; at < cells.length; at++) {
            plan[at / dancers.size()][at % dancers.size()] = cells[at];
        }
        return plan;
    }

    private int felt(int[][] plan, int k, List<Dancer> who) {
        int[] weights = new int[needs.size()];
        for (int d = 0; d < who.size(); d++) {
            boolean treadsAsAhead = who.get(d).limps() && (k == 1 || k == 3 || k == 5);
            weights[plan[treadsAsAhead ? k - 1 : k][d]] += who.get(d).weighs();
        }
        return IntStream.range(0, weights.length).filter(b -> weights[b] >= needs.get(b)).map(b -> 1 << b).sum();
    }

    private List<Integer> figureOf(int[][] plan, List<Dancer> who) {
        return IntStream.range(0, plan.length).mapToObj(k -> felt(plan, k, who)).toList();
    }

    private int opened(int[][] plan) {
        int door = doors.indexOf(figureOf(plan, dancers));
        return door < 0 ? NONE : door;
    }

    long can(int door) {
        return asked(() -> {
            refuse(isDoor(door), UNKNOWN);
            return firstPlan(doors.get(door), dancers) == null ? 0 : 1;
        });
    }

    long plan(int door, int k, int d) {
        return asked(() -> {
            refuse(isDoor(door) && isBeat(door, k) && isDancer(d), UNKNOWN);
            int[][] plan = firstPlan(doors.get(door), dancers);
            return plan == null ? NONE : plan[k][d];
        });
    }

    long limped(int door) {
        return asked(() -> {
            refuse(isDoor(door), UNKNOWN);
            int[][] plan = firstPlan(doors.get(door), dancers.stream().map(d -> new Dancer(PLAIN, d.weight)).toList());
            refuse(plan != null, STATE);
            return opened(plan);
        });
    }

    long plans(int door, int k) {
        return asked(LOST, () -> {
            refuse(isDoor(door) && isBeat(door, k), UNKNOWN);
            return allRows().stream().filter(row -> felt(new int[][] {row}, 0, dancers) == doors.get(door).get(k)).count();
        });
    }

    /** A beat and the one behind it are danced by themselves: nothing else hangs on them. */
    private int[][] firstPlan(List<Integer> figure, List<Dancer> who) {
        int[][] plan = new int[figure.size()][];
        for (int k = 0; k < plan.length; k += 2) {
            int[][] rows = firstRows(figure.subList(k, Math.min(k + 2, plan.length)), who);
            if (rows == null) {
                return null;
            }
            System.arraycopy(rows, 0, plan, k, rows.length);
        }
        return plan;
    }

    private int[][] firstRows(List<Integer> figure, List<Dancer> who) {
        List<int[]> rows = allRows();
        for (int[] first : rows) {
            if (felt(new int[][] {first}, 0, who) == figure.get(0)) {
                if (figure.size() == 1) {
                    return new int[][] {first};
                }
                for (int[] next : rows) {
                    int[][] both = {first, next};
                    if (felt(both, 1, who) == figure.get(1)) {
                        return both;
                    }
                }
            }
        }
        return null;
    }

    /** In their order. */
    private List<int[]> allRows() {
        List<int[]> rows = new ArrayList<>(List.of(new int[0]));
        for (int d = 0; d < dancers.size(); d++) {
            List<int[]> longer = new ArrayList<>();
            for (int[] row : rows) {
                for (int b = 0; b < needs.size(); b++) {
                    int[] next = Arrays.copyOf(row, row.length + 1);
                    next[row.length] = b;
                    longer.add(next);
                }
            }
            rows = longer;
        }
        return rows;
    }

    // ---- promises 15 to 20

    long family(int bars) {
        return asked(() -> {
            refuse((bars & ~IntStream.range(0, doors.size()).map(this::barsOf).sum()) == 0, OUTSIDE);
            refuse(!doors.isEmpty(), STATE);
            refuse(families.size() < 6, FULL);
            families.add(bars);
            return families.size() - 1;
        });
    }

    private int barsOf(int door) {
        return IntStream.range(0, doors.get(door).size()).map(k -> 1 << 6 * door + k).sum();
    }

    long knows(int f) {
        return asked(() -> {
            refuse(f >= 0 && f < families.size(), UNKNOWN);
            return families.get(f);
        });
    }

    long fewest(int door) {
        return asked(() -> {
            refuse(isDoor(door), UNKNOWN);
            for (int many = 0; many <= families.size(); many++) {
                for (int set : setsOf(many)) {
                    if (know(set, door)) {
                        return set;
                    }
                }
            }
            return NONE;
        });
    }

    long any(int door) {
        return asked(() -> {
            refuse(isDoor(door), UNKNOWN);
            for (int many = 0; many <= families.size(); many++) {
                if (Arrays.stream(setsOf(many)).allMatch(set -> know(set, door))) {
                    return many;
                }
            }
            return NONE;
        });
    }

    /** Sets of so many families, the least first. */
    private int[] setsOf(int many) {
        return IntStream.range(0, 1 << families.size()).filter(set -> Integer.bitCount(set) == many).toArray();
    }

    private boolean know(int set, int door) {
        return lost(set, door) == 0;
    }

    /** What none of a set of families knows of a door, as beats. */
    private int lost(int set, int door) {
        return IntStream.range(0, doors.get(door).size())
            .filter(k -> IntStream.range(0, families.size())
                .noneMatch(f -> (set >> f & 1) != 0 && (families.get(f) >> 6 * door + k & 1) != 0))
            .map(k -> 1 << k).sum();
    }

    long gone(int door, int set) {
        return asked(() -> {
            refuse(isDoor(door), UNKNOWN);
            refuse(isOf(set, families.size()), OUTSIDE);
            return lost(~set, door);
        });
    }

    long evenings(int door) {
        return asked(() -> {
            refuse(isDoor(door), UNKNOWN);
            List<Integer> known = families.stream().map(bars -> bars & barsOf(door)).collect(Collectors.toList());
            int evenings = 0;
            int some = known.stream().reduce(0, (one, other) -> one | other);
            while (known.stream().anyMatch(bars -> bars != some)) {
                known.replaceAll(bars -> bars | Integer.lowestOneBit(some & ~bars));
                evenings++;
            }
            return evenings;
        });
    }

    // ---- promises 21 to 25

    long seen(int boards, int sheet, int sort, int i, int n) {
        return naming(() -> {
            refuse(isSheet(sheet), UNKNOWN);
            refuse(isSort(sort) && isOf(boards, needs.size()), OUTSIDE);
            List<Integer> sets = boxed(taken(sheet, sort, i, n));
            refuse(!doors.isEmpty(), STATE);
            refuse(sets.stream().allMatch(set -> (set & ~boards) == 0), OUTSIDE);
            return doorsOf(figure -> figure.stream().map(set -> set & boards).toList().equals(sets));
        });
    }

    long part(int sheet, int sort, int i, int n) {
        return naming(() -> {
            refuse(isSheet(sheet), UNKNOWN);
            refuse(isSort(sort), OUTSIDE);
            List<Integer> sets = boxed(taken(sheet, sort, i, n));
            refuse(!doors.isEmpty(), STATE);
            refuse(n != 0 && sets.stream().allMatch(set -> isOf(set, needs.size())), OUTSIDE);
            return doorsOf(figure -> Collections.indexOfSubList(figure, sets) >= 0);
        });
    }

    private int doorsOf(Predicate<List<Integer>> wanted) {
        return IntStream.range(0, doors.size()).filter(door -> wanted.test(doors.get(door))).map(door -> 1 << door).sum();
    }

    private static List<Integer> boxed(int[] cells) {
        return Arrays.stream(cells).boxed().toList();
    }

    long apart(int door, int other) {
        return asked(() -> {
            refuse(isDoor(door) && isDoor(other), UNKNOWN);
            return unlike(doors.get(door), doors.get(other));
        });
    }

    private static long unlike(List<Integer> figure, List<Integer> other) {
        int both = Math.min(figure.size(), other.size());
        int more = Math.max(figure.size(), other.size()) - both;
        return more + IntStream.range(0, both).filter(k -> !figure.get(k).equals(other.get(k))).count();
    }

    long nearest(int door) {
        return asked(() -> {
            refuse(isDoor(door), UNKNOWN);
            for (int apart = 0; apart <= 6; apart++) {
                for (int other = 0; other < doors.size(); other++) {
                    if (other != door && unlike(doors.get(door), doors.get(other)) == apart) {
                        return other;
                    }
                }
            }
            return NONE;
        });
    }

    long safe() {
        return asked(() -> {
            refuse(!doors.isEmpty(), STATE);
            for (int door = 0; door < doors.size(); door++) {
                for (int other = 0; other < doors.size(); other++) {
                    if (door != other && Collections.indexOfSubList(doors.get(other), doors.get(door)) == 0) {
                        return 0;
                    }
                }
            }
            return 1;
        });
    }

    // ---- promises 27 to 31

    long sheet(int k, int sort, int n) {
        return naming(() -> {
            refuse(isSheet(k), UNKNOWN);
            refuse(isSort(sort) && n <= 80, OUTSIDE);
            fault(n >= 0, SIZE);
            sheets[k] = new Row(sort, new int[n]);
            return 1;
        });
    }

    long lose(int k) {
        return asked(() -> {
            refuse(isSheet(k), UNKNOWN);
            int had = sheets[k] == null ? 0 : 1;
            sheets[k] = null;
            return had;
        });
    }

    long put(int k, int i, int v) {
        return naming(() -> {
            refuse(isSheet(k), UNKNOWN);
            fault(sheets[k] != null, NULL);
            int[] cells = sheets[k].cells;
            fault(i >= 0 && i < cells.length, INDEX);
            cells[i] = List.of((int) (byte) v, (int) (short) v, v).get(sheets[k].sort);
            return 1;
        });
    }

    long cell(int k, int i, int sort) {
        return naming(LOST, () -> {
            refuse(isSheet(k), UNKNOWN);
            refuse(isSort(sort), OUTSIDE);
            return taken(k, sort, i, 1)[0];
        });
    }

    long copy(int k, int i, int other, int j, int n) {
        return naming(() -> {
            refuse(isSheet(k) && isSheet(other), UNKNOWN);
            fault(sheets[k] != null && sheets[other] != null, NULL);
            fault(sheets[k].sort == sheets[other].sort, CAST);
            int[] from = sheets[k].cells;
            int[] to = sheets[other].cells;
            fault(i >= 0 && j >= 0 && n >= 0 && (long) i + n <= from.length && (long) j + n <= to.length, INDEX);
            int[] asTheyWere = from.clone();
            for (int at = 0; at < n; at++) {
                to[j + at] = asTheyWere[i + at];
            }
            return n;
        });
    }

    // ---- promises 32 to 37

    private class Body {
        final int d;

        Body(int d) {
            this.d = d;
        }

        int tell() {
            leaveTrace(1);
            return dancers.get(d).weight;
        }

        int lead() {
            leaveTrace(4);
            return d;
        }
    }

    private class LimpingBody extends Body {
        LimpingBody(int d) {
            super(d);
        }

        @Override
        int tell() {
            leaveTrace(2);
            return super.tell() + 100;
        }
    }

    private class ChildBody extends LimpingBody {
        ChildBody(int d) {
            super(d);
        }

        @Override
        int tell() {
            leaveTrace(3);
            return super.tell() + new Body(d).tell();
        }

        @Override
        int lead() {
            leaveTrace(5);
            return 60;
        }
    }

    private Body body(int d) {
        refuse(isDancer(d), UNKNOWN);
        return List.of(new Body(d), new LimpingBody(d), new ChildBody(d)).get(dancers.get(d).kind);
    }

    private void leaveTrace(int number) {
        traced = traced * 31 + number;
    }

    long tell(int d) {
        return asked(() -> body(d).tell());
    }

    long lead(int d) {
        return asked(() -> body(d).lead());
    }

    long as(int d, int kind) {
        return naming(() -> {
            refuse(isDancer(d), UNKNOWN);
            refuse(kind >= 0 && kind <= 2, OUTSIDE);
            List<Class<?>> kinds = List.of(Body.class, LimpingBody.class, ChildBody.class);
            fault(kinds.get(kind).isInstance(body(d)), CAST);
            return 1;
        });
    }

    long trace() {
        return traced;
    }

    long fault() {
        return fault;
    }

    long many(int what) {
        return asked(() -> {
            refuse(what >= 0 && what <= 3, OUTSIDE);
            return List.of(needs.size(), doors.size(), dancers.size(), families.size()).get(what);
        });
    }

    // ---- what the terms say of all calls

    /** A call that names no faults. */
    private static long asked(LongSupplier call) {
        return asked(0, call);
    }

    private static long asked(long lost, LongSupplier call) {
        try {
            return call.getAsLong();
        } catch (Refused refused) {
            return lost != 0 ? lost : refused.answer;
        }
    }

    private long naming(LongSupplier call) {
        return naming(0, call);
    }

    private long naming(long lost, LongSupplier call) {
        fault = 0;
        try {
            return asked(lost, call);
        } catch (Fault comeTo) {
            fault = comeTo.number;
            return lost != 0 ? lost : -10 - fault;
        }
    }

    private static void refuse(boolean isAsTold, int answer) {
        if (!isAsTold) {
            throw new Refused(answer);
        }
    }

    private static void fault(boolean isAsTold, int number) {
        if (!isAsTold) {
            throw new Fault(number);
        }
    }

    private int[] taken(int k, int sort, int i, int n) {
        fault(sheets[k] == null || sheets[k].sort == sort, CAST);
        fault(sheets[k] != null, NULL);
        fault(n >= 0, SIZE);
        int[] cells = sheets[k].cells;
        fault(i >= 0 && i <= cells.length && (long) i + n <= cells.length, INDEX);
        return Arrays.copyOfRange(cells, i, i + n);
    }

    private static boolean isOf(int set, int numbers) {
        return (set & ~((1 << numbers) - 1)) == 0;
    }

    private static boolean isSheet(int k) {
        return k >= 0 && k <= 3;
    }

    private static boolean isSort(int sort) {
        return sort >= 0 && sort <= 2;
    }

    private boolean isBoard(int b) {
        return b >= 0 && b < needs.size();
    }

    private boolean isDoor(int door) {
        return door >= 0 && door < doors.size();
    }

    private boolean isBeat(int door, int k) {
        return k >= 0 && k < doors.get(door).size();
    }

    private boolean isDancer(int d) {
        return d >= 0 && d < dancers.size();
    }
}
