import java.lang.reflect.Method;
import java.lang.reflect.Modifier;
import java.util.ArrayList;
import java.util.Arrays;
import java.util.HashMap;
import java.util.List;
import java.util.Map;
import java.util.Random;
import java.util.function.IntSupplier;
import java.util.stream.Collectors;

/** Random runs of up to 512 calls: each answer must be that of the document as Model tells it once more. */
public final class ModelTest implements Numbers {
    private static final Check CHECK = new Check();
    private static final int RUNS = 1500;
    private static final String CODES = "l0123456789;,:/m \u0000";
    private static final Map<String, Method> METHODS = new HashMap<>();
    private static final Map<String, Method> MODELS = new HashMap<>();
    private static final List<String> NAMES = new ArrayList<>();

    private final Random random;
    private final DancedLock object = new DancedLock();
    private final Model model = new Model();
    private final List<String> told = new ArrayList<>();
    private boolean unlike;
    private int textSort;

    private ModelTest(int run) {
        random = new Random(run);
    }

    public static void main(String[] args) throws ReflectiveOperationException {
        findMethods();
        for (int run = 0; run < RUNS; run++) {
            new ModelTest(run).go(run);
        }
        CHECK.end();
    }

    private static void findMethods() throws ReflectiveOperationException {
        for (Method method : DancedLock.class.getDeclaredMethods()) {
            if (Modifier.isPublic(method.getModifiers())) {
                METHODS.put(method.getName(), method);
                MODELS.put(method.getName(), Model.class.getDeclaredMethod(method.getName(), method.getParameterTypes()));
                NAMES.add(method.getName());
            }
        }
        NAMES.sort(null);
    }

    private void go(int run) throws ReflectiveOperationException {
        while (told.size() < MOST_CALLS && !unlike) {
            switch (random.nextInt(14)) {
                case 0: newLock(); break;
                case 1: otherText(); break;
                case 2: dancers(); break;
                case 3: families(); break;
                case 4: aDance(); break;
                case 5: whatWasSeen(); break;
                case 6: askDancers(); break;
                case 7: askDoors(); break;
                default: anyCall(); break;
            }
        }
        if (unlike) {
            System.out.println("in run " + run + " behind " + told.subList(Math.max(0, told.size() - 60), told.size() - 1));
        }
    }

    /** Answers what is answered; nothing is called any more, once the run is at its end. */
    private long both(String name, int... numbers) throws ReflectiveOperationException {
        if (told.size() >= MOST_CALLS || unlike) {
            return LOST;
        }
        Object[] arguments = Arrays.stream(numbers).boxed().toArray();
        String call = name + Arrays.stream(numbers).mapToObj(String::valueOf).collect(Collectors.joining(", ", "(", ")"));
        told.add(call);
        long got = ((Number) METHODS.get(name).invoke(object, arguments)).longValue();
        long want = ((Number) MODELS.get(name).invoke(model, arguments)).longValue();
        unlike = got != want;
        CHECK.due(call, got, want);
        return got;
    }

    private void askFault() throws ReflectiveOperationException {
        if (random.nextInt(3) == 0) {
            both("fault");
        }
    }

    // ---- what a run does

    private void write(int sheet, int sort, int ahead, int... cells) throws ReflectiveOperationException {
        both("sheet", sheet, sort, Math.min(80, ahead + cells.length + random.nextInt(2)));
        for (int i = 0; i < cells.length; i++) {
            if (cells[i] != 0 || random.nextInt(8) == 0) {
                both("put", sheet, ahead + i, cells[i]);
            }
        }
    }

    private void newLock() throws ReflectiveOperationException {
        String text = text();
        int ahead = random.nextInt(3) == 0 ? random.nextInt(3) : 0;
        if (ahead + text.length() > 80) {
            return;
        }
        textSort = random.nextInt(3);
        write(0, textSort, ahead, text.chars().toArray());
        both("lock", 0, textSort, ahead, text.length());
        askFault();
        for (int what = 0; what < 4; what++) {
            both("many", what);
        }
        for (int door = 0; door < 4 && random.nextBoolean(); door++) {
            for (int k = -1; k < 6; k++) {
                both("beat", door, k);
            }
        }
    }

    private String text() {
        int boards = random.nextInt(4) == 0 ? 2 + random.nextInt(6) : 2 + random.nextInt(3);
        StringBuilder text = new StringBuilder("l").append(boards);
        for (int b = 0; b < boards; b++) {
            text.append(1 + random.nextInt(random.nextInt(5) == 0 ? 9 : 4));
        }
        int beats = 1 + random.nextInt(random.nextInt(5) == 0 ? 6 : 3);
        for (int doors = 1 + random.nextInt(4); doors > 0; doors--) {
            text.append(';').append(beat(boards));
            for (int k = random.nextInt(beats); k > 0; k--) {
                text.append(',').append(beat(boards));
            }
        }
        return text.toString();
    }

    private String beat(int boards) {
        int most = random.nextInt(5);
        StringBuilder rising = new StringBuilder();
        for (int b = 0; b < boards && rising.length() < most; b++) {
            rising.append(random.nextInt(3) == 0 ? "" + b : "");
        }
        return rising.toString();
    }

    /** What stands on sheet 0, perhaps a text, with another code, or cut off, or begun later. */
    private void otherText() throws ReflectiveOperationException {
        for (int time = 0; time < 4; time++) {
            int place = random.nextInt(30);
            int sort = random.nextInt(9) == 0 ? random.nextInt(3) : textSort;
            long was = both("cell", 0, place, sort);
            both("put", 0, place, CODES.charAt(random.nextInt(CODES.length())) + (random.nextInt(9) == 0 ? 65536 : 0));
            both("lock", 0, sort, random.nextInt(8) == 0 ? 1 : 0, random.nextInt(35) - 1);
            askFault();
            both("lock", 0, sort, 0, place + 1);
            if (was != LOST) {
                both("put", 0, place, (int) was);
            }
        }
    }

    private void dancers() throws ReflectiveOperationException {
        both("leave", random.nextInt(5));
        for (int d = random.nextInt(4); d > 0; d--) {
            both("dancer", random.nextInt(3), 1 + random.nextInt(9));
        }
    }

    private void families() throws ReflectiveOperationException {
        int bars = 0;
        for (int door = 0; door < many(1); door++) {
            bars |= (1 << beats(door)) - 1 << 6 * door;
        }
        for (int f = random.nextInt(4); f > 0; f--) {
            both("family", random.nextInt(9) == 0 ? bars : bars & random.nextInt(1 << 24));
        }
        for (int door = 0; door < many(1); door++) {
            both("fewest", door);
            both("any", door);
            both("evenings", door);
            both("gone", door, random.nextInt(1 << many(3)));
        }
    }

    private void aDance() throws ReflectiveOperationException {
        if (many(1) == 0) {
            return;
        }
        int door = random.nextInt(many(1));
        int beats = beats(door);
        int ahead = random.nextInt(3);
        int sort = random.nextInt(3);
        write(1, sort, ahead, random.ints(beats * many(2), 0, many(0)).toArray());
        both("opens", beats, 1, sort, ahead);
        both("wrong", door, 1, sort, ahead);
        boolean changing = random.nextBoolean();
        for (int k = 0; k < beats; k++) {
            int felt = (int) both("felt", beats, k, 1, sort, ahead);
            if (changing) {
                both("change", door, k, felt);
            }
        }
        askFault();
        both("opens", beats, 1, sort, ahead);
        both("wrong", door, 1, sort, ahead);
        both("can", door);
        both("limped", door);
        for (int d = 0; d < many(2); d++) {
            both("plan", door, random.nextInt(beats), d);
        }
    }

    private void whatWasSeen() throws ReflectiveOperationException {
        if (many(1) == 0) {
            return;
        }
        int door = random.nextInt(many(1));
        int beats = beats(door);
        int among = random.nextInt(1 << many(0));
        int[] sets = new int[beats];
        for (int k = 0; k < beats; k++) {
            sets[k] = (int) model.beat(door, k);
        }
        write(2, 1, 0, sets);
        int from = random.nextInt(beats);
        both("part", 2, 1, from, random.nextInt(beats - from + 1));
        both("seen", among, 2, 1, 0, beats);
        write(2, 1, 0, Arrays.stream(sets).map(set -> set & among).toArray());
        both("part", 2, 1, from, 1);
        both("seen", among, 2, 1, 0, beats);
        askFault();
    }

    private void askDancers() throws ReflectiveOperationException {
        for (int d = 0; d <= many(2); d++) {
            both("tell", d);
            both("lead", d);
            both("ofDancer", d, random.nextInt(3));
            both("as", d, random.nextInt(3));
            askFault();
        }
        both("trace");
    }

    private void askDoors() throws ReflectiveOperationException {
        for (int door = 0; door <= many(1); door++) {
            both("nearest", door);
            both("apart", door, random.nextInt(4));
            both("plans", door, random.nextInt(2));
        }
        both("safe");
        for (int f = 0; f <= many(3); f++) {
            both("knows", f);
        }
    }

    private int many(int what) {
        return (int) model.many(what);
    }

    private int beats(int door) {
        return (int) model.beat(door, -1);
    }

    // ---- any call

    private void anyCall() throws ReflectiveOperationException {
        String name = NAMES.get(random.nextInt(NAMES.size()));
        IntSupplier number = random.nextInt(4) == 0 ? this::wildNumber : () -> random.nextInt(5);
        int[] numbers = new int[METHODS.get(name).getParameterCount()];
        for (int at = 0; at < numbers.length; at++) {
            numbers[at] = number.getAsInt();
        }
        both(name, numbers);
        askFault();
    }

    private int wildNumber() {
        switch (random.nextInt(12)) {
            case 0: return Integer.MIN_VALUE;
            case 1: return Integer.MAX_VALUE;
            case 2: return random.nextInt();
            case 3: return -1 - random.nextInt(2);
            case 4: return random.nextInt(100);
            case 5: return 1 << random.nextInt(25);
            default: return random.nextInt(7);
        }
    }
}
