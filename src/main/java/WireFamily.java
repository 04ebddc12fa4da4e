import java.util.Arrays;

/**
 * A family at a table, and the wire by which it is cut into two halves.
 * What each call answers is told by the document, as promises 1 to 28; the words in capitals
 * there (ROW, KIN, PART, DEED, LEVEL, COUNTS, PARTED ..) mean the same here.
 */
public final class WireFamily {
    public static final int UNKNOWN = -1, BAD = -2, LATE = -3, FULL = -4, NONE = -9;

    private static final int MOST_BYTES = 56, MOST_ROWS = 5, MOST_KIN = 5, MOST_DEEDS = 4;
    private static final int COLUMNS = 5, PARTS = 4, KINDS = 4;
    private static final int MOST_ACTS = 14, MOST_SEEN = 6, MOST_YEARS = 30, MOST_DOINGS = 4, SLOTS = 2;
    private static final int LEFT = 0, RIGHT = 1, BOTH = 2;
    private static final int AUNT = 1, UNCLE = 2, INFANT = 3;
    private static final int VOICE = 0;
    private static final int DRAWN_LESS = 0, DRAWN_MORE = 1, CHANGED = 2, JOINED = 3;
    private static final int WIRE_AT_FIRST = 2;
    /** All ways to put five rows at 0 .. 5, level or not: a bound for loops over wires. */
    private static final int MOST_WIRES = 7776;
    private static final int EVERYBODY = (1 << MOST_KIN) - 1;
    private static final long SEED_TIMES = 6364136223846793005L, SEED_AND = 1442695040888963407L;
    private static final int[] FACTORIAL = {1, 1, 2, 6, 24, 120};

    private final Text text;
    private final House house;
    private final House draft;
    private final Table table;
    private final Table trial;
    private final Table[] slots;
    private final boolean[] kept;
    private final Acts acts;
    private final Tally tally;
    private final Seen seen;
    private final Wires wires;
    private final Pick pick;
    private long seed;

    public WireFamily() {
        text = new Text();
        house = new House();
        draft = new House();
        table = new Table(house);
        trial = new Table(house);
        slots = new Table[SLOTS];
        for (int slot = 0; slot < SLOTS; slot++) {
            slots[slot] = new Table(house);
        }
        kept = new boolean[SLOTS];
        acts = new Acts();
        tally = new Tally(house);
        seen = new Seen();
        wires = new Wires();
        pick = new Pick();
        seed = 0L;
    }

    // ---- the family

    public int write(int letter) {
        if (letter < 0 || letter > 255) {
            return BAD;
        }
        return text.append(letter) ? text.length : FULL;
    }

    public int wipe() {
        int before = text.length;
        text.length = 0;
        return before;
    }

    public int fault() {
        return text.readInto(draft);
    }

    public int family() {
        // The draft is read first, so that a text with a fault leaves the family as it was.
        if (text.readInto(draft) != NONE) {
            return LATE;
        }
        text.readInto(house);
        table.begin();
        acts.forget();
        for (int slot = 0; slot < SLOTS; slot++) {
            kept[slot] = false;
        }
        return 100 * house.rows + 10 * house.kin + house.deeds;
    }

    public int about(int what) {
        switch (what) {
            case 0: return house.rows;
            case 1: return house.kin;
            case 2: return house.deeds;
            case 3: return table.gold;
            case 4: return table.wireNumber();
            case 5: return table.slipCount();
            case 6: return talliedNow().partedBits();
            case 7: return wireCount();
            case 8: return acts.count;
            case 9: return seen.count;
            case 10: return text.length;
            default: return BAD;
        }
    }

    public int cell(int row, int column, int what) {
        if (!isRow(row)) {
            return UNKNOWN;
        }
        if (column < 0 || column >= COLUMNS) {
            return BAD;
        }
        int value = table.cells[row * COLUMNS + column];
        int half = halfOf(column, table.wire[row]);
        switch (what) {
            case 0: return kinOf(value);
            case 1: return partOf(value);
            case 2: return half;
            case 3: return talliedNow().halvesFor(value, half);
            default: return BAD;
        }
    }

    public int kin(int kin, int what) {
        if (!isKin(kin)) {
            return UNKNOWN;
        }
        switch (what) {
            case 0: return house.kinds[kin];
            case 1: return talliedNow().cellsIn(LEFT, kin);
            case 2: return talliedNow().cellsIn(RIGHT, kin);
            case 3: return talliedNow().countedOf(LEFT, kin);
            case 4: return talliedNow().countedOf(RIGHT, kin);
            default: return BAD;
        }
    }

    public int has(int half, int part) {
        if (!isHalf(half) || part < 0 || part >= PARTS) {
            return BAD;
        }
        return talliedNow().counted(half, part, EVERYBODY);
    }

    public int can(int half) {
        if (!isHalf(half)) {
            return BAD;
        }
        return talliedNow().deedBits(half, EVERYBODY);
    }

    // ---- acts

    public int draw(int row, int way) {
        if (!isRow(row)) {
            return UNKNOWN;
        }
        if (way != DRAWN_LESS && way != DRAWN_MORE) {
            return BAD;
        }
        int before = table.wireNumber();
        if (!table.moveWire(row, way)) {
            return LATE;
        }
        acts.note(NONE, before, table.gold);
        return table.wire[row];
    }

    public int change(int row) {
        if (!isRow(row)) {
            return UNKNOWN;
        }
        if (!table.swapAtWire(row)) {
            return LATE;
        }
        acts.note(row, table.wireNumber(), table.gold);
        return kinOf(table.cells[row * COLUMNS + table.wire[row] - 1]);
    }

    public int join() {
        acts.note(NONE, table.wireNumber(), table.gold);
        table.joinFaces();
        return table.gold;
    }

    public int undo() {
        if (acts.count == 0) {
            return LATE;
        }
        acts.takeBack(table);
        return acts.count;
    }

    // ---- wires

    public int best(int what) {
        if (what != 0 && what != 1) {
            return BAD;
        }
        int twice = 2 * house.deeds;
        pick.begin();
        wires.begin(house.rows);
        for (int turn = 0; turn < MOST_WIRES && wires.standing; turn++) {
            tally.take(table.cells, wires.wire);
            int undone = twice - tally.deedCount(LEFT) - tally.deedCount(RIGHT);
            // One deed weighs more than all kin together, so kin decide only between like ones.
            pick.offer(undone * (MOST_KIN + 1) + tally.partedCount(), wires.figures());
            wires.advance();
        }
        return what == 0 ? pick.which : twice - pick.cost / (MOST_KIN + 1);
    }

    public int fewest(int deed, int what) {
        if (!isDeed(deed)) {
            return UNKNOWN;
        }
        if (what != 0 && what != 1) {
            return BAD;
        }
        pick.begin();
        wires.begin(house.rows);
        for (int turn = 0; turn < MOST_WIRES && wires.standing; turn++) {
            tally.take(table.cells, wires.wire);
            if (tally.isDone(deed, LEFT, EVERYBODY) && tally.isDone(deed, RIGHT, EVERYBODY)) {
                pick.offer(tally.partedCount(), wires.figures());
            }
            wires.advance();
        }
        return what == 0 ? pick.which : pick.cost;
    }

    public int fair(int one, int other, int what) {
        if (!isWorth(one) || !isWorth(other) || what != 0 && what != 1) {
            return BAD;
        }
        pick.begin();
        wires.begin(house.rows);
        for (int turn = 0; turn < MOST_WIRES && wires.standing; turn++) {
            tally.take(table.cells, wires.wire);
            if (tally.worth(LEFT, one) >= tally.worth(RIGHT, one)
                    && tally.worth(RIGHT, other) >= tally.worth(LEFT, other)) {
                pick.offer(0, wires.figures());
            }
            wires.advance();
        }
        return what == 0 ? pick.count : pick.which;
    }

    public int judge(int n, int row) {
        if (n < 1 || n > MOST_DOINGS) {
            return BAD;
        }
        int bound = 1;
        for (int doing = 0; doing < n; doing++) {
            bound *= 100;
        }
        if (row < 0 || row >= bound) {
            return BAD;
        }
        trial.copyOf(table);
        int unit = bound / 100;
        for (int place = 0; place < n && unit > 0; place++) {
            int doing = row / unit % 100;
            if (!trial.act(doing / 10, doing % 10)) {
                return place;
            }
            unit /= 100;
        }
        return NONE;
    }

    public int share(int kin, int half, boolean upper) {
        if (!isKin(kin)) {
            return UNKNOWN;
        }
        if (!isHalf(half)) {
            return BAD;
        }
        talliedNow();
        int sum = 0;
        for (int crowd = 0; crowd < 1 << house.kin; crowd++) {
            if ((crowd >> kin & 1) == 0) {
                int more = Integer.bitCount(tally.deedBits(half, crowd | 1 << kin))
                        - Integer.bitCount(tally.deedBits(half, crowd));
                sum += more * ordersWith(Integer.bitCount(crowd));
            }
        }
        return fraction(sum, FACTORIAL[house.kin], upper);
    }

    // ---- traces

    public int see(int kin, int side) {
        if (!isKin(kin)) {
            return UNKNOWN;
        }
        if (side < LEFT || side > BOTH) {
            return BAD;
        }
        return seen.append(kin, side) ? seen.count : FULL;
    }

    public int unsee() {
        int before = seen.count;
        seen.count = 0;
        return before;
    }

    public int traces(int what) {
        if (what != 0 && what != 1) {
            return BAD;
        }
        pick.begin();
        wires.begin(house.rows);
        for (int turn = 0; turn < MOST_WIRES && wires.standing; turn++) {
            tally.take(table.cells, wires.wire);
            if (seen.agreesWith(tally, house.kin)) {
                pick.offer(0, wires.figures());
            }
            wires.advance();
        }
        return what == 0 ? pick.count : pick.which;
    }

    // ---- rests, chances

    public int rests(int what) {
        if (what != 0 && what != 1) {
            return BAD;
        }
        pick.begin();
        for (int one = 0; one <= 1; one++) {
            for (int other = 0; other <= 1; other++) {
                if (isAtRest(one, other)) {
                    pick.offer(0, 10 * one + other);
                }
            }
        }
        return what == 0 ? pick.count : pick.which;
    }

    public int slips(int deed, int half, int x, boolean upper) {
        if (!isDeed(deed)) {
            return UNKNOWN;
        }
        if (!isHalf(half) || x < 0 || x > 10) {
            return BAD;
        }
        trial.copyOf(table);
        int sum = 0;
        int all = 1;
        for (int row = 0; row < house.rows; row++) {
            all *= 10;
        }
        for (int moved = 0; moved < 1 << house.rows; moved++) {
            int likely = 1;
            for (int row = 0; row < house.rows; row++) {
                int moves = moved >> row & 1;
                trial.wire[row] = Math.min(COLUMNS, table.wire[row] + moves);
                likely *= moves == 1 ? x : 10 - x;
            }
            tally.take(trial.cells, trial.wire);
            if (tally.isDone(deed, half, EVERYBODY)) {
                sum += likely;
            }
        }
        return fraction(sum, all, upper);
    }

    public long seed(long v) {
        long before = seed;
        seed = v;
        return before;
    }

    public int years(int m) {
        if (m < 1 || m > MOST_YEARS) {
            return BAD;
        }
        trial.copyOf(table);
        int sum = 0;
        for (int year = 0; year < m; year++) {
            seed = seed * SEED_TIMES + SEED_AND;
            int chance = (int) ((seed >>> 33) % 16);
            if (chance == 15) {
                trial.joinFaces();
            } else {
                trial.act(chance / 5, chance % 5);
            }
            tally.take(trial.cells, trial.wire);
            sum += tally.partedCount();
        }
        return sum;
    }

    // ---- slots

    public int keep(int slot) {
        if (slot < 0 || slot >= SLOTS) {
            return UNKNOWN;
        }
        slots[slot].copyOf(table);
        kept[slot] = true;
        return table.gold;
    }

    public int again(int slot) {
        if (slot < 0 || slot >= SLOTS) {
            return UNKNOWN;
        }
        if (!kept[slot]) {
            return LATE;
        }
        table.copyOf(slots[slot]);
        acts.forget();
        return table.gold;
    }

    // ---- what the calls share

    private boolean isRow(int row) {
        return row >= 0 && row < house.rows;
    }

    private boolean isKin(int kin) {
        return kin >= 0 && kin < house.kin;
    }

    private boolean isDeed(int deed) {
        return deed >= 0 && deed < house.deeds;
    }

    private static boolean isHalf(int half) {
        return half == LEFT || half == RIGHT;
    }

    private static boolean isWorth(int worth) {
        return worth >= 0 && worth <= 9999;
    }

    private static int kinOf(int value) {
        return value / PARTS;
    }

    private static int partOf(int value) {
        return value % PARTS;
    }

    private static int halfOf(int column, int wire) {
        return column < wire ? LEFT : RIGHT;
    }

    private Tally talliedNow() {
        tally.take(table.cells, table.wire);
        return tally;
    }

    private int wireCount() {
        int count = 0;
        wires.begin(house.rows);
        for (int turn = 0; turn < MOST_WIRES && wires.standing; turn++) {
            count++;
            wires.advance();
        }
        return count;
    }

    /** In how many orders one comes just behind a crowd of so many others. */
    private int ordersWith(int ahead) {
        int behind = house.kin - 1 - ahead;
        if (ahead < 0 || behind < 0) {
            return 0;
        }
        return FACTORIAL[ahead] * FACTORIAL[behind];
    }

    private boolean isAtRest(int one, int other) {
        return holding(LEFT, one, other) >= holding(LEFT, 1 - one, other)
                && holding(RIGHT, one, other) >= holding(RIGHT, one, 1 - other);
    }

    /** What the heir of a half has, if the one and the other pull (1) or not (0). */
    private int holding(int half, int one, int other) {
        int left = 0;
        for (int row = 0; row < house.rows; row++) {
            // At 0 and at 5 there is no cell to be pulled over.
            left += Math.max(0, Math.min(COLUMNS, table.wire[row] + one - other));
        }
        if (half == LEFT) {
            return left - 2 * one;
        }
        return house.rows * COLUMNS - left - 2 * other;
    }

    private static int fraction(int above, int below, boolean upper) {
        int common = commonDivisor(above, below);
        if (common == 0) {
            return 0;
        }
        return upper ? above / common : below / common;
    }

    private static int commonDivisor(int one, int other) {
        int greater = one;
        int lesser = other;
        // Euclid's steps for any two ints are fewer than 64.
        for (int step = 0; step < 64 && lesser != 0; step++) {
            int left = greater % lesser;
            greater = lesser;
            lesser = left;
        }
        return greater;
    }

    /** The bytes that were written. */
    private static final class Text {
        private final int[] bytes = new int[MOST_BYTES];
        private int length;

        boolean append(int letter) {
            if (length >= MOST_BYTES) {
                return false;
            }
            bytes[length] = letter;
            length++;
            return true;
        }

        /** Reads the text as a family; answers where the fault is, or NONE. */
        int readInto(House reader) {
            reader.begin();
            for (int place = 0; place < length; place++) {
                if (!reader.take(bytes[place])) {
                    return place;
                }
            }
            return reader.isWhole() ? NONE : length;
        }
    }

    /** What a text tells of a family: kin, cells as they were told, deeds. */
    private static final class House {
        private static final int AWAITS_START = 0, AWAITS_THING = 1, AWAITS_KIND = 2;
        private static final int AWAITS_CELL = 3, AWAITS_PART = 4, AWAITS_NEED = 5;

        private final int[] kinds = new int[MOST_KIN];
        private final int[] cells = new int[MOST_ROWS * COLUMNS];
        private final int[] parts = new int[MOST_DEEDS];
        private final int[] needs = new int[MOST_DEEDS];
        private int kin;
        private int rows;
        private int deeds;
        private int awaits;
        private int column;

        void begin() {
            kin = 0;
            rows = 0;
            deeds = 0;
            column = 0;
            awaits = AWAITS_START;
        }

        boolean isWhole() {
            return awaits == AWAITS_THING;
        }

        /** The next byte of the text; false, if it can not stand there. */
        boolean take(int letter) {
            switch (awaits) {
                case AWAITS_START: return takeStart(letter);
                case AWAITS_THING: return takeThing(letter);
                case AWAITS_KIND: return takeKind(letter - '0');
                case AWAITS_CELL: return takeCell(letter - 'a');
                case AWAITS_PART: return takePart(letter - '0');
                default: return takeNeed(letter - '0');
            }
        }

        private boolean takeStart(int letter) {
            if (letter != 'F') {
                return false;
            }
            awaits = AWAITS_THING;
            return true;
        }

        private boolean takeThing(int letter) {
            if (letter == 'K' && kin < MOST_KIN) {
                awaits = AWAITS_KIND;
                return true;
            }
            if (letter == 'R' && rows < MOST_ROWS && kin > 0) {
                awaits = AWAITS_CELL;
                column = 0;
                return true;
            }
            if (letter == 'D' && deeds < MOST_DEEDS) {
                awaits = AWAITS_PART;
                return true;
            }
            return false;
        }

        private boolean takeKind(int kind) {
            if (kind < 0 || kind >= KINDS || kin >= MOST_KIN) {
                return false;
            }
            kinds[kin] = kind;
            kin++;
            awaits = AWAITS_THING;
            return true;
        }

        private boolean takeCell(int value) {
            if (value < 0 || value >= kin * PARTS || rows >= MOST_ROWS || column >= COLUMNS) {
                return false;
            }
            cells[rows * COLUMNS + column] = value;
            column++;
            if (column == COLUMNS) {
                rows++;
                awaits = AWAITS_THING;
            }
            return true;
        }

        private boolean takePart(int part) {
            if (part < 0 || part >= PARTS || deeds >= MOST_DEEDS) {
                return false;
            }
            parts[deeds] = part;
            awaits = AWAITS_NEED;
            return true;
        }

        private boolean takeNeed(int need) {
            if (need < 1 || need > 9 || deeds >= MOST_DEEDS) {
                return false;
            }
            needs[deeds] = need;
            deeds++;
            awaits = AWAITS_THING;
            return true;
        }
    }

    /** Cells, wire and gold: what acts change and slots keep. */
    private static final class Table {
        private final House house;
        private final int[] cells = new int[MOST_ROWS * COLUMNS];
        private final int[] wire = new int[MOST_ROWS];
        private int gold;

        Table(House house) {
            this.house = house;
        }

        void begin() {
            System.arraycopy(house.cells, 0, cells, 0, MOST_ROWS * COLUMNS);
            Arrays.fill(wire, WIRE_AT_FIRST);
            gold = 0;
        }

        void copyOf(Table other) {
            System.arraycopy(other.cells, 0, cells, 0, MOST_ROWS * COLUMNS);
            System.arraycopy(other.wire, 0, wire, 0, MOST_ROWS);
            gold = other.gold;
        }

        int wireNumber() {
            return figuresOf(wire, house.rows);
        }

        void setWire(int number) {
            int left = number;
            for (int row = house.rows - 1; row >= 0; row--) {
                wire[row] = left % 10;
                left /= 10;
            }
        }

        int slipCount() {
            int count = 0;
            for (int row = 1; row < house.rows; row++) {
                if (wire[row] != wire[row - 1]) {
                    count++;
                }
            }
            return count;
        }

        /** One doing, told by its kind and its row; false, if it can not be. */
        boolean act(int kind, int row) {
            switch (kind) {
                case DRAWN_LESS: return moveWire(row, DRAWN_LESS);
                case DRAWN_MORE: return moveWire(row, DRAWN_MORE);
                case CHANGED: return swapAtWire(row);
                case JOINED:
                    if (row != 0) {
                        return false;
                    }
                    joinFaces();
                    return true;
                default: return false;
            }
        }

        boolean moveWire(int row, int way) {
            if (row < 0 || row >= house.rows) {
                return false;
            }
            int to = way == DRAWN_MORE ? wire[row] + 1 : wire[row] - 1;
            if (to < 0 || to > COLUMNS || !isNear(row - 1, to) || !isNear(row + 1, to)) {
                return false;
            }
            wire[row] = to;
            return true;
        }

        private boolean isNear(int row, int place) {
            return row < 0 || row >= house.rows || Math.abs(wire[row] - place) <= 1;
        }

        boolean swapAtWire(int row) {
            if (row < 0 || row >= house.rows || wire[row] < 1 || wire[row] >= COLUMNS) {
                return false;
            }
            int right = row * COLUMNS + wire[row];
            int value = cells[right];
            cells[right] = cells[right - 1];
            cells[right - 1] = value;
            return true;
        }

        void joinFaces() {
            gold += slipCount();
            Arrays.fill(wire, WIRE_AT_FIRST);
        }
    }

    /** The last acts, each with the wire and the gold that were ahead of it. */
    private static final class Acts {
        private final int[] changedRows = new int[MOST_ACTS];
        private final int[] wiresBefore = new int[MOST_ACTS];
        private final int[] goldBefore = new int[MOST_ACTS];
        private int count;

        void forget() {
            count = 0;
        }

        /** changedRow is NONE for an act that leaves the cells where they are. */
        void note(int changedRow, int wireBefore, int gold) {
            if (count >= MOST_ACTS) {
                forgetFirst();
            }
            changedRows[count] = changedRow;
            wiresBefore[count] = wireBefore;
            goldBefore[count] = gold;
            count++;
        }

        private void forgetFirst() {
            count = MOST_ACTS - 1;
            System.arraycopy(changedRows, 1, changedRows, 0, count);
            System.arraycopy(wiresBefore, 1, wiresBefore, 0, count);
            System.arraycopy(goldBefore, 1, goldBefore, 0, count);
        }

        void takeBack(Table table) {
            if (count <= 0) {
                return;
            }
            count--;
            table.setWire(wiresBefore[count]);
            table.gold = goldBefore[count];
            // To change the same two cells once more undoes it; for NONE nothing is swapped.
            table.swapAtWire(changedRows[count]);
        }
    }

    /** Who is in which half by a wire, and what counts there. */
    private static final class Tally {
        private final House house;
        private final int[] inHalf = new int[2 * MOST_KIN];
        private final int[] counts = new int[2 * MOST_KIN * PARTS];

        Tally(House house) {
            this.house = house;
        }

        void take(int[] cells, int[] wire) {
            countCells(cells, wire);
            Arrays.fill(counts, 0);
            for (int row = 0; row < house.rows; row++) {
                for (int column = 0; column < COLUMNS; column++) {
                    int value = cells[row * COLUMNS + column];
                    int halves = halvesFor(value, halfOf(column, wire[row]));
                    // A value is kin and part in one, so it is the place in a half's counts.
                    counts[value] += halves & 1;
                    counts[MOST_KIN * PARTS + value] += halves >> 1;
                }
            }
        }

        private void countCells(int[] cells, int[] wire) {
            Arrays.fill(inHalf, 0);
            for (int row = 0; row < house.rows; row++) {
                for (int column = 0; column < COLUMNS; column++) {
                    int half = halfOf(column, wire[row]);
                    inHalf[half * MOST_KIN + kinOf(cells[row * COLUMNS + column])]++;
                }
            }
        }

        /** The halves for which a cell that is in a half counts, as bits. */
        int halvesFor(int value, int half) {
            int kin = kinOf(value);
            int kind = house.kinds[kin];
            if (kind == AUNT || kind == UNCLE && partOf(value) == VOICE) {
                return 3;
            }
            if (kind == INFANT && isParted(kin)) {
                return 0;
            }
            return 1 << half;
        }

        int cellsIn(int half, int kin) {
            return inHalf[half * MOST_KIN + kin];
        }

        boolean isParted(int kin) {
            return cellsIn(LEFT, kin) > 0 && cellsIn(RIGHT, kin) > 0;
        }

        int partedBits() {
            int bits = 0;
            for (int kin = 0; kin < house.kin; kin++) {
                if (isParted(kin)) {
                    bits |= 1 << kin;
                }
            }
            return bits;
        }

        int partedCount() {
            return Integer.bitCount(partedBits());
        }

        int countedOf(int half, int kin) {
            int sum = 0;
            for (int part = 0; part < PARTS; part++) {
                sum += counts[(half * MOST_KIN + kin) * PARTS + part];
            }
            return sum;
        }

        /** How many cells of a part count for a half, of those kin alone whose bits are in crowd. */
        int counted(int half, int part, int crowd) {
            int sum = 0;
            for (int kin = 0; kin < house.kin; kin++) {
                if ((crowd >> kin & 1) == 1) {
                    sum += counts[(half * MOST_KIN + kin) * PARTS + part];
                }
            }
            return sum;
        }

        boolean isDone(int deed, int half, int crowd) {
            return counted(half, house.parts[deed], crowd) >= house.needs[deed];
        }

        int deedBits(int half, int crowd) {
            int bits = 0;
            for (int deed = 0; deed < house.deeds; deed++) {
                if (isDone(deed, half, crowd)) {
                    bits |= 1 << deed;
                }
            }
            return bits;
        }

        int deedCount(int half) {
            return Integer.bitCount(deedBits(half, EVERYBODY));
        }

        /** What counts for a half, by four figures, the voice's the highest. */
        int worth(int half, int figures) {
            int sum = 0;
            int left = figures;
            for (int part = PARTS - 1; part >= 0; part--) {
                sum += left % 10 * counted(half, part, EVERYBODY);
                left /= 10;
            }
            return sum;
        }
    }

    /** Who was seen where. */
    private static final class Seen {
        private final int[] who = new int[MOST_SEEN];
        private final int[] sides = new int[MOST_SEEN];
        private int count;

        boolean append(int kin, int side) {
            if (count >= MOST_SEEN) {
                return false;
            }
            who[count] = kin;
            sides[count] = side;
            count++;
            return true;
        }

        /** Kin that a newer family has not are passed over. */
        boolean agreesWith(Tally tally, int kinThereAre) {
            for (int place = 0; place < count; place++) {
                if (who[place] < kinThereAre && !isSo(tally, who[place], sides[place])) {
                    return false;
                }
            }
            return true;
        }

        private static boolean isSo(Tally tally, int kin, int side) {
            boolean left = tally.cellsIn(LEFT, kin) > 0;
            boolean right = tally.cellsIn(RIGHT, kin) > 0;
            switch (side) {
                case LEFT: return left && !right;
                case RIGHT: return right && !left;
                default: return left && right;
            }
        }
    }

    /** All level wires, one by one, the lesser number ahead. */
    private static final class Wires {
        private final int[] wire = new int[MOST_ROWS];
        private int rows;
        private boolean standing;

        void begin(int howManyRows) {
            rows = Math.min(MOST_ROWS, howManyRows);
            Arrays.fill(wire, 0);
            standing = true;
        }

        int figures() {
            return figuresOf(wire, rows);
        }

        /** On to the next wire; when there is none, none is standing any more. */
        void advance() {
            for (int row = rows - 1; row >= 0; row--) {
                if (wire[row] < COLUMNS && (row == 0 || wire[row] <= wire[row - 1])) {
                    wire[row]++;
                    putLeastBehind(row);
                    return;
                }
            }
            standing = false;
        }

        private void putLeastBehind(int row) {
            for (int next = row + 1; next < rows; next++) {
                wire[next] = Math.max(0, wire[next - 1] - 1);
            }
        }
    }

    private static int figuresOf(int[] wire, int rows) {
        int number = 1;
        for (int row = 0; row < rows; row++) {
            number = 10 * number + wire[row];
        }
        return number;
    }

    /** Of what is offered: how many there were, and the first one of least cost. */
    private static final class Pick {
        private int count;
        private int cost;
        private int which;

        void begin() {
            count = 0;
            cost = NONE;
            which = NONE;
        }

        void offer(int itsCost, int it) {
            if (count == 0 || itsCost < cost) {
                cost = itsCost;
                which = it;
            }
            count++;
        }
    }
}
