import java.util.Arrays;

/** A granary's lock that is danced open. README.md tells how to use it. */
public final class DancedLock {
    public static final int UNKNOWN = -1, OUTSIDE = -2, STATE = -3, FULL = -4, NONE = -9;
    public static final long LOST = Long.MIN_VALUE;

    private static final int FAULT_NULL = 1, FAULT_CAST = 2, FAULT_INDEX = 3, FAULT_SIZE = 4;
    private static final int DANCER = 0, LIMPER = 1, CHILD = 2;
    private static final int SORTS = 3, KINDS = 3;
    private static final int MOST_BEATS = 6;
    private static final int MOST_CELLS = 80;

    private final Sheets sheets;
    private final Text text;
    private final Dance dance;
    private final Floor floor;
    private final Troupe troupe;
    private final Families families;
    /** The cells that the latest call took from a sheet. */
    private final int[] row;
    private int traced;
    private int latestFault;

    public DancedLock() {
        sheets = new Sheets();
        text = new Text();
        dance = new Dance();
        floor = dance.floor;
        troupe = dance.troupe;
        families = new Families();
        row = new int[MOST_CELLS];
    }

    // ---- 1 the lock

    public int lock(int sheet, int sort, int i, int n) {
        int refused = takeRow(sheet, sort, false, i, n);
        if (refused != 0) {
            return refused;
        }
        int place = text.firstFault(row, n);
        if (place != Text.TAKEN) {
            return -100 - place;
        }
        floor.becomeLike(text.draft);
        troupe.count = 0;
        families.count = 0;
        return floor.doors;
    }

    public int board(int b) {
        return floor.hasBoard(b) ? floor.needs[b] : UNKNOWN;
    }

    public int beat(int door, int k) {
        if (k == -1 && floor.hasDoor(door)) {
            return floor.beatsOf(door);
        }
        return floor.hasBeat(door, k) ? floor.figureAt(door, k) : UNKNOWN;
    }

    public int change(int door, int k, int boards) {
        if (!floor.hasBeat(door, k)) {
            return UNKNOWN;
        }
        if ((boards & ~floor.allBoards()) != 0 || Integer.bitCount(boards) > Floor.MOST_RISING) {
            return OUTSIDE;
        }
        return floor.exchange(door, k, boards);
    }

    // ---- 2 dancers, dances

    public int dancer(int kind, int weight) {
        if (kind < 0 || kind >= KINDS || weight < 1 || weight > 9) {
            return OUTSIDE;
        }
        if (!floor.stands()) {
            return STATE;
        }
        return troupe.isFull() ? FULL : troupe.join(kind, weight);
    }

    public int ofDancer(int d, int what) {
        if (!troupe.includes(d)) {
            return UNKNOWN;
        }
        switch (what) {
            case 0: return troupe.kindOf(d);
            case 1: return troupe.weightOf(d);
            case 2: return Troupe.pull(troupe.kindOf(d), troupe.weightOf(d));
            default: return OUTSIDE;
        }
    }

    public int leave(int k) {
        if (k < 0 || k > troupe.count) {
            return OUTSIDE;
        }
        troupe.count -= k;
        return troupe.count;
    }

    public int opens(int beats, int sheet, int sort, int i) {
        int refused = takePlan(beats, sheet, sort, beats < 1 || beats > MOST_BEATS, i);
        return refused != 0 ? refused : dance.doorOpened(beats);
    }

    public int felt(int beats, int k, int sheet, int sort, int i) {
        boolean outside = beats < 1 || beats > MOST_BEATS || k < 0 || k >= beats;
        int refused = takePlan(beats, sheet, sort, outside, i);
        return refused != 0 ? refused : dance.feltIn(k);
    }

    public int wrong(int door, int sheet, int sort, int i) {
        latestFault = 0;
        if (!floor.hasDoor(door)) {
            return UNKNOWN;
        }
        int refused = takePlan(floor.beatsOf(door), sheet, sort, false, i);
        return refused != 0 ? refused : dance.firstWrong(door);
    }

    public int can(int door) {
        if (!floor.hasDoor(door)) {
            return UNKNOWN;
        }
        return dance.findPlan(door, false) ? 1 : 0;
    }

    public int plan(int door, int k, int d) {
        if (!floor.hasBeat(door, k) || !troupe.includes(d)) {
            return UNKNOWN;
        }
        return dance.findPlan(door, false) ? dance.stepOf(k, d) : NONE;
    }

    public int limped(int door) {
        if (!floor.hasDoor(door)) {
            return UNKNOWN;
        }
        if (!dance.findPlan(door, true)) {
            return STATE;
        }
        return dance.doorOpened(floor.beatsOf(door));
    }

    // ---- 3 families

    public int family(int bars) {
        if ((bars & ~floor.allBars()) != 0) {
            return OUTSIDE;
        }
        if (!floor.stands()) {
            return STATE;
        }
        return families.isFull() ? FULL : families.add(bars);
    }

    public int knows(int f) {
        return families.includes(f) ? families.barsOf(f) : UNKNOWN;
    }

    public int fewest(int door) {
        return floor.hasDoor(door) ? families.leastSetThatKnows(floor.barsOfDoor(door)) : UNKNOWN;
    }

    public int any(int door) {
        return floor.hasDoor(door) ? families.numberThatMustKnow(floor.barsOfDoor(door)) : UNKNOWN;
    }

    public int gone(int door, int families) {
        if (!floor.hasDoor(door)) {
            return UNKNOWN;
        }
        if ((families & ~this.families.all()) != 0) {
            return OUTSIDE;
        }
        int kept = this.families.knownTogether(this.families.all() & ~families);
        return floor.beatsOfBars(door, ~kept);
    }

    public int evenings(int door) {
        return floor.hasDoor(door) ? families.mostToLearn(floor.barsOfDoor(door)) : UNKNOWN;
    }

    // ---- 4 what was seen

    public int seen(int boards, int sheet, int sort, int i, int n) {
        int refused = takeRow(sheet, sort, (boards & ~floor.allBoards()) != 0, i, n);
        if (refused != 0) {
            return refused;
        }
        if (!floor.stands()) {
            return STATE;
        }
        return rowIsWithin(boards, n) ? floor.doorsSeen(boards, row, n) : OUTSIDE;
    }

    public int part(int sheet, int sort, int i, int n) {
        int refused = takeRow(sheet, sort, false, i, n);
        if (refused != 0) {
            return refused;
        }
        if (!floor.stands()) {
            return STATE;
        }
        if (n == 0 || !rowIsWithin(floor.allBoards(), n)) {
            return OUTSIDE;
        }
        return floor.doorsWithPart(row, n);
    }

    public int apart(int door, int other) {
        if (!floor.hasDoor(door) || !floor.hasDoor(other)) {
            return UNKNOWN;
        }
        return floor.beatsUnlike(door, other);
    }

    public int nearest(int door) {
        return floor.hasDoor(door) ? floor.leastUnlike(door) : UNKNOWN;
    }

    public int safe() {
        if (!floor.stands()) {
            return STATE;
        }
        return floor.someDoorBeginsAnother() ? 0 : 1;
    }

    public long plans(int door, int k) {
        return floor.hasBeat(door, k) ? dance.rowsFor(floor.figureAt(door, k)) : LOST;
    }

    // ---- 6 sheets, parts

    public int sheet(int k, int sort, int n) {
        latestFault = 0;
        if (!sheets.includes(k)) {
            return UNKNOWN;
        }
        if (sort < 0 || sort >= SORTS || n > MOST_CELLS) {
            return OUTSIDE;
        }
        if (n < 0) {
            return faulted(FAULT_SIZE);
        }
        sheets.renew(k, sort, n);
        return 1;
    }

    public int lose(int k) {
        if (!sheets.includes(k)) {
            return UNKNOWN;
        }
        int had = sheets.isNothing(k) ? 0 : 1;
        sheets.drop(k);
        return had;
    }

    public int put(int k, int i, int v) {
        latestFault = 0;
        if (!sheets.includes(k)) {
            return UNKNOWN;
        }
        int fault = sheets.faultOfCells(k, sheets.sortOf(k), i, 1);
        if (fault != 0) {
            return faulted(fault);
        }
        sheets.write(k, i, v);
        return 1;
    }

    public long cell(int k, int i, int sort) {
        return takeRow(k, sort, false, i, 1) != 0 ? LOST : row[0];
    }

    public int copy(int k, int i, int other, int j, int n) {
        latestFault = 0;
        if (!sheets.includes(k) || !sheets.includes(other)) {
            return UNKNOWN;
        }
        int fault = sheets.faultOfMove(k, i, other, j, n);
        if (fault != 0) {
            return faulted(fault);
        }
        sheets.move(k, i, other, j, n);
        return n;
    }

    public int tell(int d) {
        if (!troupe.includes(d)) {
            return UNKNOWN;
        }
        switch (troupe.kindOf(d)) {
            case CHILD: return tellAsChild(d);
            case LIMPER: return tellAsLimper(d);
            default: return tellAsDancer(d);
        }
    }

    public int lead(int d) {
        if (!troupe.includes(d)) {
            return UNKNOWN;
        }
        if (troupe.kindOf(d) == CHILD) {
            leaveTrace(5);
            return 60;
        }
        leaveTrace(4);
        return d;
    }

    public int as(int d, int kind) {
        latestFault = 0;
        if (!troupe.includes(d)) {
            return UNKNOWN;
        }
        if (kind < 0 || kind >= KINDS) {
            return OUTSIDE;
        }
        return troupe.isOfKind(d, kind) ? 1 : faulted(FAULT_CAST);
    }

    public int trace() {
        return traced;
    }

    public int fault() {
        return latestFault;
    }

    public int many(int what) {
        switch (what) {
            case 0: return floor.boards;
            case 1: return floor.doors;
            case 2: return troupe.count;
            case 3: return families.count;
            default: return OUTSIDE;
        }
    }

    // ---- what several calls share

    private int faulted(int fault) {
        latestFault = fault;
        return -10 - fault;
    }

    /** 0 once the cells stand in the row; else what the call answers. It begins the call anew for fault(). */
    private int takeRow(int sheet, int sort, boolean outside, int i, int n) {
        latestFault = 0;
        if (!sheets.includes(sheet)) {
            return UNKNOWN;
        }
        if (sort < 0 || sort >= SORTS || outside) {
            return OUTSIDE;
        }
        int fault = sheets.faultOfCells(sheet, sort, i, n);
        if (fault != 0) {
            return faulted(fault);
        }
        sheets.readInto(row, sheet, i, n);
        return 0;
    }

    /** 0 once the plan stands in the dance; else what the call answers. */
    private int takePlan(int beats, int sheet, int sort, boolean outside, int i) {
        int refused = takeRow(sheet, sort, outside, i, beats * troupe.count);
        if (refused != 0) {
            return refused;
        }
        if (!floor.stands()) {
            return STATE;
        }
        return dance.learn(row, beats) ? 0 : UNKNOWN;
    }

    private boolean rowIsWithin(int set, int n) {
        for (int k = 0; k < n && k < row.length; k++) {
            if ((row[k] & ~set) != 0) {
                return false;
            }
        }
        return true;
    }

    private void leaveTrace(int number) {
        traced = 31 * traced + number;
    }

    private int tellAsDancer(int d) {
        leaveTrace(1);
        return troupe.weightOf(d);
    }

    private int tellAsLimper(int d) {
        leaveTrace(2);
        return tellAsDancer(d) + 100;
    }

    private int tellAsChild(int d) {
        leaveTrace(3);
        int limping = tellAsLimper(d);
        return limping + tellAsDancer(d);
    }

    /** The sheets, side by side in one array, so that a new row needs no new object. */
    private static final class Sheets {
        private static final int MOST = 4;
        private static final int NOTHING = -1;

        private final int[] sorts = new int[MOST];
        private final int[] lengths = new int[MOST];
        private final int[] cells = new int[MOST * MOST_CELLS];

        Sheets() {
            Arrays.fill(sorts, NOTHING);
        }

        boolean includes(int k) {
            return k >= 0 && k < MOST;
        }

        boolean isNothing(int k) {
            return sortOf(k) == NOTHING;
        }

        int sortOf(int k) {
            return includes(k) ? sorts[k] : NOTHING;
        }

        int lengthOf(int k) {
            return includes(k) ? lengths[k] : 0;
        }

        void renew(int k, int sort, int n) {
            if (includes(k) && n >= 0 && n <= MOST_CELLS) {
                sorts[k] = sort;
                lengths[k] = n;
                Arrays.fill(cells, k * MOST_CELLS, k * MOST_CELLS + n, 0);
            }
        }

        void drop(int k) {
            if (includes(k)) {
                sorts[k] = NOTHING;
                lengths[k] = 0;
            }
        }

        boolean hasCells(int k, int i, int n) {
            return i >= 0 && i <= lengthOf(k) && n >= 0 && n <= lengthOf(k) - i;
        }

        int faultOfCells(int k, int sort, int i, int n) {
            if (isNothing(k)) {
                return FAULT_NULL;
            }
            if (sortOf(k) != sort) {
                return FAULT_CAST;
            }
            if (n < 0) {
                return FAULT_SIZE;
            }
            return hasCells(k, i, n) ? 0 : FAULT_INDEX;
        }

        int faultOfMove(int k, int i, int other, int j, int n) {
            if (isNothing(k) || isNothing(other)) {
                return FAULT_NULL;
            }
            if (sortOf(k) != sortOf(other)) {
                return FAULT_CAST;
            }
            return hasCells(k, i, n) && hasCells(other, j, n) ? 0 : FAULT_INDEX;
        }

        void write(int k, int i, int v) {
            if (hasCells(k, i, 1)) {
                cells[k * MOST_CELLS + i] = cut(v, sortOf(k));
            }
        }

        private int cut(int v, int sort) {
            switch (sort) {
                case 0: return (byte) v;
                case 1: return (short) v;
                default: return v;
            }
        }

        void readInto(int[] row, int k, int i, int n) {
            if (hasCells(k, i, n) && n <= row.length) {
                System.arraycopy(cells, k * MOST_CELLS + i, row, 0, n);
            }
        }

        void move(int k, int i, int other, int j, int n) {
            if (hasCells(k, i, n) && hasCells(other, j, n)) {
                System.arraycopy(cells, k * MOST_CELLS + i, cells, other * MOST_CELLS + j, n);
            }
        }
    }

    /** Reads a text into a floor of its own, so that a text that is refused leaves all as it is. */
    private static final class Text {
        static final int TAKEN = -1;

        private final Floor draft = new Floor();

        int firstFault(int[] codes, int n) {
            int count = Math.min(n, codes.length);
            draft.clear();
            if (count < 1 || codes[0] != 'l') {
                return 0;
            }
            if (count < 2 || codes[1] < '2' || codes[1] > '7') {
                return 1;
            }
            int first = 2 + codes[1] - '0';
            for (int at = 2; at < first; at++) {
                if (at >= count || codes[at] < '1' || codes[at] > '9') {
                    return at;
                }
                draft.addBoard(codes[at] - '0');
            }
            return firstFaultOfDoors(codes, first, count);
        }

        private int firstFaultOfDoors(int[] codes, int first, int count) {
            for (int at = first; at < count; at++) {
                if (!goesOn(codes[at])) {
                    return at;
                }
            }
            return draft.doors > 0 ? TAKEN : count;
        }

        private boolean goesOn(int code) {
            switch (code) {
                case ';': return draft.addDoor();
                case ',': return draft.addBeat();
                default: return draft.addRising(code - '0');
            }
        }
    }

    /** The boards and the doors with their figures. */
    private static final class Floor {
        static final int MOST_RISING = 4;
        private static final int MOST_BOARDS = 7, MOST_DOORS = 4;

        private int boards;
        private int doors;
        private final int[] needs = new int[MOST_BOARDS];
        private final int[] beats = new int[MOST_DOORS];
        private final int[] figures = new int[MOST_DOORS * MOST_BEATS];

        void clear() {
            boards = 0;
            doors = 0;
        }

        void becomeLike(Floor other) {
            boards = other.boards;
            doors = other.doors;
            System.arraycopy(other.needs, 0, needs, 0, MOST_BOARDS);
            System.arraycopy(other.beats, 0, beats, 0, MOST_DOORS);
            System.arraycopy(other.figures, 0, figures, 0, MOST_DOORS * MOST_BEATS);
        }

        void addBoard(int need) {
            if (boards < MOST_BOARDS) {
                needs[boards] = need;
                boards++;
            }
        }

        boolean addDoor() {
            if (doors >= MOST_DOORS) {
                return false;
            }
            beats[doors] = 0;
            doors++;
            return addBeat();
        }

        boolean addBeat() {
            int door = doors - 1;
            if (!hasDoor(door) || beats[door] >= MOST_BEATS) {
                return false;
            }
            figures[door * MOST_BEATS + beats[door]] = 0;
            beats[door]++;
            return true;
        }

        boolean addRising(int b) {
            int door = doors - 1;
            if (!hasDoor(door) || !hasBoard(b)) {
                return false;
            }
            int at = door * MOST_BEATS + beats[door] - 1;
            if (at < 0 || at >= figures.length) {
                return false;
            }
            if (figures[at] >> b != 0 || Integer.bitCount(figures[at]) >= MOST_RISING) {
                return false;
            }
            figures[at] |= 1 << b;
            return true;
        }

        boolean stands() {
            return doors > 0;
        }

        boolean hasBoard(int b) {
            return b >= 0 && b < boards && b < MOST_BOARDS;
        }

        boolean hasDoor(int door) {
            return door >= 0 && door < doors && door < MOST_DOORS;
        }

        boolean hasBeat(int door, int k) {
            return hasDoor(door) && k >= 0 && k < beats[door] && k < MOST_BEATS;
        }

        int allBoards() {
            return (1 << boards) - 1;
        }

        int beatsOf(int door) {
            return hasDoor(door) ? beats[door] : 0;
        }

        int figureAt(int door, int k) {
            return hasBeat(door, k) ? figures[door * MOST_BEATS + k] : 0;
        }

        int exchange(int door, int k, int set) {
            int was = figureAt(door, k);
            if (hasBeat(door, k)) {
                figures[door * MOST_BEATS + k] = set;
            }
            return was;
        }

        int barsOfDoor(int door) {
            return (1 << beatsOf(door)) - 1 << door * MOST_BEATS;
        }

        int allBars() {
            int bars = 0;
            for (int door = 0; door < doors; door++) {
                bars |= barsOfDoor(door);
            }
            return bars;
        }

        int beatsOfBars(int door, int bars) {
            return (bars & barsOfDoor(door)) >> door * MOST_BEATS;
        }

        int doorsSeen(int among, int[] sets, int n) {
            int found = 0;
            for (int door = 0; door < doors; door++) {
                if (beatsOf(door) == n && agrees(door, 0, among, sets, n)) {
                    found |= 1 << door;
                }
            }
            return found;
        }

        int doorsWithPart(int[] sets, int n) {
            int found = 0;
            for (int door = 0; door < doors; door++) {
                for (int from = 0; from <= beatsOf(door) - n; from++) {
                    if (agrees(door, from, allBoards(), sets, n)) {
                        found |= 1 << door;
                    }
                }
            }
            return found;
        }

        private boolean agrees(int door, int from, int among, int[] sets, int n) {
            for (int k = 0; k < n && k < sets.length; k++) {
                if ((figureAt(door, from + k) & among) != sets[k]) {
                    return false;
                }
            }
            return true;
        }

        int beatsUnlike(int door, int other) {
            int unlike = 0;
            for (int k = 0; k < MOST_BEATS; k++) {
                if (hasBeat(door, k) != hasBeat(other, k) || figureAt(door, k) != figureAt(other, k)) {
                    unlike++;
                }
            }
            return unlike;
        }

        int leastUnlike(int door) {
            int nearest = NONE;
            int least = MOST_BEATS + 1;
            for (int other = 0; other < doors; other++) {
                if (other != door && beatsUnlike(door, other) < least) {
                    least = beatsUnlike(door, other);
                    nearest = other;
                }
            }
            return nearest;
        }

        boolean someDoorBeginsAnother() {
            for (int door = 0; door < doors; door++) {
                for (int other = 0; other < doors; other++) {
                    if (other != door && begins(door, other)) {
                        return true;
                    }
                }
            }
            return false;
        }

        /** Being just the other one's figure counts too. */
        private boolean begins(int door, int other) {
            return beatsOf(door) <= beatsOf(other)
                && beatsUnlike(door, other) == beatsOf(other) - beatsOf(door);
        }
    }

    /** The dancers that are there. */
    private static final class Troupe {
        private static final int MOST = 4;

        private int count;
        private final int[] kinds = new int[MOST];
        private final int[] weights = new int[MOST];

        boolean isFull() {
            return count >= MOST;
        }

        int join(int kind, int weight) {
            if (isFull()) {
                return FULL;
            }
            kinds[count] = kind;
            weights[count] = weight;
            count++;
            return count - 1;
        }

        boolean includes(int d) {
            return d >= 0 && d < count && d < MOST;
        }

        int kindOf(int d) {
            return includes(d) ? kinds[d] : DANCER;
        }

        int weightOf(int d) {
            return includes(d) ? weights[d] : 0;
        }

        /** The kinds are numbered so that each is of all kinds below it, too. */
        boolean isOfKind(int d, int kind) {
            return kindOf(d) >= kind;
        }

        static int pull(int kind, int weight) {
            return kind == CHILD ? weight / 2 : weight;
        }
    }

    /** A plan's steps, danced on the floor by the troupe, and the search for the first plan. */
    private static final class Dance {
        private static final int MOST_ROWS = 7 * 7 * 7 * 7;

        private final Floor floor = new Floor();
        private final Troupe troupe = new Troupe();
        private final int[] steps = new int[MOST_BEATS * Troupe.MOST];
        private final int[] loads = new int[Floor.MOST_BOARDS];
        private final int[] pulls = new int[Troupe.MOST];
        private final boolean[] limping = new boolean[Troupe.MOST];
        private int dancers;
        /** A bit for each row of limpers' boards by which the odd beat was found not to be danced. */
        private final long[] hopeless = new long[(MOST_ROWS + 63) / 64];

        /** The dancers as they are, or as if all were of kind 0. */
        private void callUp(boolean asPlain) {
            dancers = Math.min(troupe.count, Troupe.MOST);
            for (int d = 0; d < dancers; d++) {
                int kind = asPlain ? DANCER : troupe.kindOf(d);
                pulls[d] = Troupe.pull(kind, troupe.weightOf(d));
                limping[d] = kind >= LIMPER;
            }
        }

        int stepOf(int k, int d) {
            int at = k * Troupe.MOST + d;
            return at >= 0 && at < steps.length ? steps[at] : 0;
        }

        private void step(int k, int d, int b) {
            int at = k * Troupe.MOST + d;
            if (at >= 0 && at < steps.length) {
                steps[at] = b;
            }
        }

        boolean learn(int[] boards, int beats) {
            int at = 0;
            for (int k = 0; k < beats; k++) {
                for (int d = 0; d < troupe.count; d++) {
                    if (at >= boards.length || !floor.hasBoard(boards[at])) {
                        return false;
                    }
                    step(k, d, boards[at]);
                    at++;
                }
            }
            return true;
        }

        int doorOpened(int beats) {
            for (int door = 0; door < floor.doors; door++) {
                if (floor.beatsOf(door) == beats && firstWrong(door) == NONE) {
                    return door;
                }
            }
            return NONE;
        }

        int firstWrong(int door) {
            for (int k = 0; k < floor.beatsOf(door); k++) {
                if (feltIn(k) != floor.figureAt(door, k)) {
                    return k;
                }
            }
            return NONE;
        }

        int feltIn(int k) {
            callUp(false);
            load(k, dancers);
            int felt = 0;
            for (int b = 0; b < floor.boards; b++) {
                if (missingOn(b) <= 0) {
                    felt |= 1 << b;
                }
            }
            return felt;
        }

        /** The weight that a board lacks; none is left, once it is felt. */
        private int missingOn(int b) {
            return floor.hasBoard(b) ? floor.needs[b] - loads[b] : 0;
        }

        /** Loads the boards with those who have their step by now: of number below known, or bound to one. */
        private void load(int k, int known) {
            Arrays.fill(loads, 0);
            for (int d = 0; d < dancers; d++) {
                boolean bound = isBound(k, d);
                int b = stepOf(bound ? k - 1 : k, d);
                if ((bound || d < known) && floor.hasBoard(b)) {
                    loads[b] += pullOf(d);
                }
            }
        }

        /** Whether a dancer treads, limping, what it trod in the beat ahead. */
        private boolean isBound(int k, int d) {
            return k % 2 == 1 && d >= 0 && d < dancers && d < Troupe.MOST && limping[d];
        }

        private int pullOf(int d) {
            return d >= 0 && d < dancers && d < Troupe.MOST ? pulls[d] : 0;
        }

        /** An odd beat hangs on the one ahead alone, so that each two beats are sought by themselves. */
        boolean findPlan(int door, boolean asPlain) {
            callUp(asPlain);
            for (int k = 0; k < floor.beatsOf(door); k += 2) {
                Arrays.fill(hopeless, 0);
                if (!place(door, k, 0)) {
                    return false;
                }
            }
            return true;
        }

        /** Whether the dancers from d on find steps in beat k, and all in the odd beat behind it. */
        private boolean place(int door, int k, int d) {
            if (!isOpen(floor.figureAt(door, k), k, d)) {
                return false;
            }
            if (d >= dancers) {
                return k % 2 == 1 || !floor.hasBeat(door, k + 1) || placeBehind(door, k + 1);
            }
            if (isBound(k, d)) {
                // What the plan says here is not danced: the first row says 0.
                step(k, d, 0);
                return place(door, k, d + 1);
            }
            for (int b = 0; b < floor.boards; b++) {
                step(k, d, b);
                if (place(door, k, d + 1)) {
                    return true;
                }
            }
            return false;
        }

        /** The limpers alone bind the odd beat k: what failed behind their boards is not sought again. */
        private boolean placeBehind(int door, int k) {
            int row = limpersRow(k);
            int word = row / 64;
            if (word < 0 || word >= hopeless.length || (hopeless[word] >>> row % 64 & 1) != 0) {
                return false;
            }
            hopeless[word] |= 1L << row % 64;
            return place(door, k, 0);
        }

        private int limpersRow(int k) {
            int row = 0;
            for (int d = 0; d < dancers; d++) {
                row = Floor.MOST_BOARDS * row + (isBound(k, d) ? stepOf(k - 1, d) : 0);
            }
            return row;
        }

        long rowsFor(int figure) {
            callUp(false);
            return countRows(figure, 0);
        }

        private long countRows(int figure, int d) {
            if (!isOpen(figure, 0, d)) {
                return 0;
            }
            if (d >= dancers) {
                return 1;
            }
            long rows = 0;
            for (int b = 0; b < floor.boards; b++) {
                step(0, d, b);
                rows += countRows(figure, d + 1);
            }
            return rows;
        }

        /** False, if the dancers from d on can't make just the figure felt; once there are none, true if it is. */
        private boolean isOpen(int figure, int k, int d) {
            load(k, d);
            int lack = 0;
            for (int b = 0; b < floor.boards; b++) {
                int missing = missingOn(b);
                boolean wanted = (figure >> b & 1) != 0;
                if (!wanted && missing <= 0) {
                    return false;
                }
                if (wanted && missing > 0) {
                    lack += missing;
                }
            }
            return lack <= weightToCome(k, d);
        }

        private int weightToCome(int k, int from) {
            int weight = 0;
            for (int d = from; d < dancers; d++) {
                if (!isBound(k, d)) {
                    weight += pullOf(d);
                }
            }
            return weight;
        }
    }

    /** The families and the bars that each knows. */
    private static final class Families {
        private static final int MOST = 6;
        private static final int BARS = 24;

        private int count;
        private final int[] known = new int[MOST];

        boolean isFull() {
            return count >= MOST;
        }

        int add(int bars) {
            if (isFull()) {
                return FULL;
            }
            known[count] = bars;
            count++;
            return count - 1;
        }

        boolean includes(int f) {
            return f >= 0 && f < count && f < MOST;
        }

        int all() {
            return (1 << count) - 1;
        }

        int barsOf(int f) {
            return includes(f) ? known[f] : 0;
        }

        int knownTogether(int set) {
            int bars = 0;
            for (int f = 0; f < count; f++) {
                if ((set >> f & 1) != 0) {
                    bars |= barsOf(f);
                }
            }
            return bars;
        }

        int leastSetThatKnows(int bars) {
            int best = NONE;
            int fewest = MOST + 1;
            for (int set = 0; set <= all(); set++) {
                boolean knows = (bars & ~knownTogether(set)) == 0;
                if (knows && Integer.bitCount(set) < fewest) {
                    fewest = Integer.bitCount(set);
                    best = set;
                }
            }
            return best;
        }

        /** So many that of the bar that most do not know one must be there who knows it. */
        int numberThatMustKnow(int bars) {
            int most = 0;
            for (int bar = 0; bar < BARS; bar++) {
                if ((bars >> bar & 1) != 0) {
                    most = Math.max(most, ignorantOf(bar));
                }
            }
            return most < count ? most + 1 : NONE;
        }

        private int ignorantOf(int bar) {
            int ignorant = 0;
            for (int f = 0; f < count; f++) {
                if ((barsOf(f) >> bar & 1) == 0) {
                    ignorant++;
                }
            }
            return ignorant;
        }

        /** What some know can be learnt from the first evening on, so that each family is held up by nothing. */
        int mostToLearn(int bars) {
            int some = knownTogether(all()) & bars;
            int most = 0;
            for (int f = 0; f < count; f++) {
                most = Math.max(most, Integer.bitCount(some & ~barsOf(f)));
            }
            return most;
        }
    }
}
