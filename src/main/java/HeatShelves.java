/**
 * Blocks on three shelves, which move to slower ones as they grow cold and back as they are read.
 * The document's numbered promises tell what each call answers.
 */
public final class HeatShelves {
    public static final int UNKNOWN = -1;
    public static final int OUT_OF_RANGE = -2;
    public static final int FULL = -3;
    public static final int NOT_POSSIBLE = -4;
    public static final int NONE = -5;

    private static final int FAST = 0;
    private static final int SLOW = 1;
    private static final int DEEP = 2;
    private static final int SHELVES = 3;

    private static final int MOST_BLOCKS = 24;
    private static final int MOST_SIZE = 9;
    private static final int MOST_NUMBER = 999;
    private static final int MOST_HEAT = 99999;
    private static final int FIRST_HEAT = 1000;
    private static final int HEAT_OF_READING = 1000;
    private static final int MOST_TIMES = 99;
    private static final int MOST_NIGHTS = 5000;

    // The indexes in a state's numbers are those that set and total use.
    private static final int FADE = 0;
    private static final int HOT = 1;
    private static final int WARM = 2;
    private static final int MOVES = 3;
    private static final int PROMISE = 4;
    private static final int FEE = 5;
    private static final int ROOM = 6;
    private static final int NIGHT_PRICE = 9;
    private static final int READING_PRICE = 12;
    private static final int SETTINGS = 15;
    private static final int BLOCKS = 15;
    private static final int BLOCKS_SO_FAR = 16;
    private static final int NIGHTS = 17;
    private static final int PAID_FOR_NIGHTS = 18;
    private static final int PAID_FOR_READINGS = 19;
    private static final int PAID_FOR_FEES = 20;
    private static final int NIGHT_MOVES = 21;
    private static final int ASKED_BACK = 22;
    private static final int NUMBERS = 23;

    private static final int[] FIRST_VALUES = {80, 3000, 500, 4, 5, 2, 20, 40, 200, 10, 4, 1, 0, 2, 9};
    private static final int[] GREATEST_VALUES =
        {100, 20000, 20000, 24, 30, 50, 200, 200, 200, 50, 50, 50, 50, 50, 50};

    private static final int MOVED = 0;
    private static final int IS_PINNED = 1;
    private static final int IS_PROMISED = 2;
    private static final int IS_WHERE_WANTED = 3;
    private static final int MOVES_USED_UP = 4;
    private static final int NO_ROOM = 5;

    private static final int MOST_STATES = 4;
    private static final int MOST_SIGNS = 60;
    private static final int MOST_ORDERS = 30;
    private static final int FAULT_BASE = -100;
    private static final int NO_FAULT = -1;
    private static final int NOWHERE = -1;

    private static final int MOST_NIGHTS_FOR_HOT = 20;
    private static final int HOT_STEP = 500;
    private static final int MOST_READINGS = 999;
    private static final int CHEAPEST_NIGHTS = 10;

    private final State state = new State();
    private final State work = new State();
    private final State snapshot = new State();
    private boolean hasSnapshot = false;
    private final History history = new History();
    private final Night night = new Night();
    private final Orders orders = new Orders();

    public HeatShelves() {
    }

    // ---- changes

    public int add(int size) {
        work.copyFrom(state);
        return settle(work.addBlock(size));
    }

    public int remove(int block) {
        work.copyFrom(state);
        return settle(work.dropBlock(block));
    }

    public int read(int block, int times) {
        work.copyFrom(state);
        return settle(work.readBlock(block, times));
    }

    public int pin(int block, boolean isPinned) {
        work.copyFrom(state);
        return settle(work.turnPin(block, isPinned));
    }

    public int pass(int nights) {
        work.copyFrom(state);
        return settle(passInWork(nights));
    }

    public int set(int setting, int value) {
        work.copyFrom(state);
        return settle(work.changeSetting(setting, value));
    }

    // ---- texts

    public int type(char character) {
        return orders.append(character);
    }

    public int clearText() {
        return orders.empty();
    }

    public int perform() {
        int fault = orders.readAll();
        if (fault != NO_FAULT) {
            return FAULT_BASE - fault;
        }
        work.copyFrom(state);
        for (int i = 0; i < orders.count; i++) {
            int answer = performInWork(i);
            if (answer < 0) {
                return answer;
            }
        }
        return settle(orders.count);
    }

    // ---- history

    public int undo() {
        if (!history.takeLatest(state)) {
            return NONE;
        }
        return history.count;
    }

    public int keep() {
        snapshot.copyFrom(state);
        hasSnapshot = true;
        return state.countBlocks();
    }

    public int restore() {
        if (!hasSnapshot) {
            return NONE;
        }
        work.copyFrom(snapshot);
        return settle(snapshot.countBlocks());
    }

    // ---- what there is

    public int block(int rank) {
        if (rank < 0) {
            return OUT_OF_RANGE;
        }
        int place = state.placeOfRank(rank);
        return place == NOWHERE ? NONE : at(state.names, place);
    }

    public int ofBlock(int block, int what) {
        int place = state.find(block);
        if (place == NOWHERE) {
            return UNKNOWN;
        }
        switch (what) {
            case 0: return at(state.sizes, place);
            case 1: return at(state.heats, place);
            case 2: return at(state.shelves, place);
            case 3: return state.wantedShelf(place);
            case 4: return at(state.pins, place);
            case 5: return at(state.promises, place);
            case 6: return at(state.readings, place);
            case 7: return at(state.moves, place);
            case 8: return whyItStays(place);
            default: return OUT_OF_RANGE;
        }
    }

    public int shelf(int shelf, int what) {
        if (shelf < 0 || shelf >= SHELVES) {
            return UNKNOWN;
        }
        switch (what) {
            case 0: return at(state.numbers, ROOM + shelf);
            case 1: return at(state.taken, shelf);
            case 2: return state.countOnShelf(shelf);
            case 3: return state.heatOnShelf(shelf);
            case 4: return state.nightPriceOfShelf(shelf);
            default: return OUT_OF_RANGE;
        }
    }

    public int total(int what) {
        if (what >= 0 && what < NUMBERS) {
            return at(state.numbers, what);
        }
        switch (what) {
            case 23: return state.countPinned();
            case 24: return state.heatOfAll();
            case 25: return history.count;
            case 26: return orders.length;
            default: return OUT_OF_RANGE;
        }
    }

    // ---- what would be

    public int ifPassed(int nights, int what) {
        if (nights < 1 || nights > MOST_TIMES || what < 0 || what > 5) {
            return OUT_OF_RANGE;
        }
        work.copyFrom(state);
        int moved = night.letPass(work, nights);
        switch (what) {
            case 0: return paidForNightsInWork();
            case 1: return moved;
            case 2: return work.heatOfAll();
            default: return at(work.taken, what - 3);
        }
    }

    public int nextMove() {
        work.copyFrom(state);
        for (int nights = 1; nights <= MOST_TIMES; nights++) {
            if (night.letPass(work, 1) > 0) {
                return nights;
            }
        }
        return NONE;
    }

    public int bestHot(int nights, int what) {
        if (nights < 1 || nights > MOST_NIGHTS_FOR_HOT || what < 0 || what > 1) {
            return OUT_OF_RANGE;
        }
        int warm = at(state.numbers, WARM);
        int greatest = at(GREATEST_VALUES, HOT);
        int bestHot = NOWHERE;
        int leastPaid = 0;
        for (int hot = 0; hot <= greatest; hot += HOT_STEP) {
            if (hot >= warm) {
                int paid = paidWithHot(hot, nights);
                if (bestHot == NOWHERE || paid < leastPaid) {
                    bestHot = hot;
                    leastPaid = paid;
                }
            }
        }
        return what == 0 ? bestHot : leastPaid;
    }

    public int cheapest(int block, int readings) {
        int place = state.find(block);
        if (place == NOWHERE) {
            return UNKNOWN;
        }
        if (readings < 0 || readings > MOST_READINGS) {
            return OUT_OF_RANGE;
        }
        int best = FAST;
        for (int shelf = SLOW; shelf < SHELVES; shelf++) {
            if (priceOfStay(place, shelf, readings) < priceOfStay(place, best, readings)) {
                best = shelf;
            }
        }
        return best;
    }

    // ---- helpers of the calls

    /** Makes the work the state if the answer is no error and not NONE, and gives the answer back. */
    private int settle(int answer) {
        if (answer >= 0) {
            history.record(state);
            state.copyFrom(work);
        }
        return answer;
    }

    private int passInWork(int nights) {
        if (nights < 1 || nights > MOST_TIMES) {
            return OUT_OF_RANGE;
        }
        if (at(work.numbers, NIGHTS) + nights > MOST_NIGHTS) {
            return FULL;
        }
        return night.letPass(work, nights);
    }

    private int performInWork(int order) {
        int kind = at(orders.kinds, order);
        int number = at(orders.values, order);
        if (kind == '+') {
            return work.addBlock(number);
        }
        if (kind == '-') {
            return work.dropBlock(number);
        }
        if (kind == 'r') {
            return work.readBlock(number, at(orders.times, order));
        }
        if (kind == 'p') {
            return work.flipPin(number);
        }
        return passInWork(number);
    }

    private int whyItStays(int place) {
        work.copyFrom(state);
        night.letPass(work, 1);
        return at(night.reasons, place);
    }

    private int paidForNightsInWork() {
        return at(work.numbers, PAID_FOR_NIGHTS) - at(state.numbers, PAID_FOR_NIGHTS);
    }

    private int paidWithHot(int hot, int nights) {
        work.copyFrom(state);
        put(work.numbers, HOT, hot);
        night.letPass(work, nights);
        return paidForNightsInWork();
    }

    private int priceOfStay(int place, int shelf, int readings) {
        int forOne = CHEAPEST_NIGHTS * at(state.numbers, NIGHT_PRICE + shelf)
            + readings * at(state.numbers, READING_PRICE + shelf);
        return at(state.sizes, place) * forOne;
    }

    // ---- rows of numbers; an index outside a row reads 0 and writes nothing

    private static int at(int[] row, int index) {
        return index >= 0 && index < row.length ? row[index] : 0;
    }

    private static void put(int[] row, int index, int value) {
        if (index >= 0 && index < row.length) {
            row[index] = value;
        }
    }

    private static void raise(int[] row, int index, int by) {
        if (index >= 0 && index < row.length) {
            row[index] += by;
        }
    }

    private static void copyRow(int[] from, int[] to) {
        System.arraycopy(from, 0, to, 0, Math.min(from.length, to.length));
    }

    private static void closeGap(int[] row, int place) {
        for (int i = Math.max(place, 0); i + 1 < row.length; i++) {
            row[i] = row[i + 1];
        }
    }

    /**
     * All that undo and restore bring back. A block has the same place in each of its rows; places
     * go by the blocks' numbers, so of several alike the one at the least place has the least number.
     */
    private static final class State {
        private final int[] numbers = new int[NUMBERS];
        private final int[] taken = new int[SHELVES];
        private final int[] names = new int[MOST_BLOCKS];
        private final int[] sizes = new int[MOST_BLOCKS];
        private final int[] heats = new int[MOST_BLOCKS];
        private final int[] shelves = new int[MOST_BLOCKS];
        private final int[] pins = new int[MOST_BLOCKS];
        private final int[] promises = new int[MOST_BLOCKS];
        private final int[] readings = new int[MOST_BLOCKS];
        private final int[] moves = new int[MOST_BLOCKS];

        private State() {
            for (int i = 0; i < FIRST_VALUES.length && i < numbers.length; i++) {
                numbers[i] = FIRST_VALUES[i];
            }
        }

        private void copyFrom(State other) {
            copyRow(other.numbers, numbers);
            copyRow(other.taken, taken);
            copyRow(other.names, names);
            copyRow(other.sizes, sizes);
            copyRow(other.heats, heats);
            copyRow(other.shelves, shelves);
            copyRow(other.pins, pins);
            copyRow(other.promises, promises);
            copyRow(other.readings, readings);
            copyRow(other.moves, moves);
        }

        private int countBlocks() {
            return at(numbers, BLOCKS);
        }

        private int find(int block) {
            int count = countBlocks();
            for (int i = 0; i < count; i++) {
                if (at(names, i) == block) {
                    return i;
                }
            }
            return NOWHERE;
        }

        private int placeOfRank(int rank) {
            int count = countBlocks();
            for (int i = 0; i < count; i++) {
                if (countHotter(i) == rank) {
                    return i;
                }
            }
            return NOWHERE;
        }

        private int countHotter(int place) {
            int count = countBlocks();
            int heat = at(heats, place);
            int hotter = 0;
            for (int i = 0; i < count; i++) {
                int other = at(heats, i);
                if (other > heat || other == heat && i < place) {
                    hotter++;
                }
            }
            return hotter;
        }

        private int wantedShelf(int place) {
            int heat = at(heats, place);
            if (heat >= at(numbers, HOT)) {
                return FAST;
            }
            return heat >= at(numbers, WARM) ? SLOW : DEEP;
        }

        private boolean hasRoom(int shelf, int size) {
            return shelf >= 0 && shelf < SHELVES && taken[shelf] + size <= numbers[ROOM + shelf];
        }

        private int countOnShelf(int shelf) {
            int count = countBlocks();
            int found = 0;
            for (int i = 0; i < count; i++) {
                if (at(shelves, i) == shelf) {
                    found++;
                }
            }
            return found;
        }

        private int heatOnShelf(int shelf) {
            int count = countBlocks();
            int heat = 0;
            for (int i = 0; i < count; i++) {
                if (at(shelves, i) == shelf) {
                    heat += at(heats, i);
                }
            }
            return heat;
        }

        private int heatOfAll() {
            int heat = 0;
            for (int shelf = 0; shelf < SHELVES; shelf++) {
                heat += heatOnShelf(shelf);
            }
            return heat;
        }

        private int nightPriceOfShelf(int shelf) {
            return at(taken, shelf) * at(numbers, NIGHT_PRICE + shelf);
        }

        private int countPinned() {
            int count = countBlocks();
            int pinned = 0;
            for (int i = 0; i < count; i++) {
                pinned += at(pins, i);
            }
            return pinned;
        }

        private int addBlock(int size) {
            if (size < 1 || size > MOST_SIZE) {
                return OUT_OF_RANGE;
            }
            int shelf = fastestWithRoom(size);
            int place = countBlocks();
            int name = at(numbers, BLOCKS_SO_FAR);
            if (place >= MOST_BLOCKS || shelf == NOWHERE || name > MOST_NUMBER) {
                return FULL;
            }
            put(names, place, name);
            put(sizes, place, size);
            put(heats, place, FIRST_HEAT);
            put(shelves, place, shelf);
            put(pins, place, 0);
            put(promises, place, 0);
            put(readings, place, 0);
            put(moves, place, 0);
            raise(taken, shelf, size);
            raise(numbers, BLOCKS, 1);
            raise(numbers, BLOCKS_SO_FAR, 1);
            return name;
        }

        private int fastestWithRoom(int size) {
            for (int shelf = 0; shelf < SHELVES; shelf++) {
                if (hasRoom(shelf, size)) {
                    return shelf;
                }
            }
            return NOWHERE;
        }

        private int dropBlock(int block) {
            int place = find(block);
            if (place == NOWHERE) {
                return UNKNOWN;
            }
            int shelf = at(shelves, place);
            raise(taken, shelf, -at(sizes, place));
            raise(numbers, BLOCKS, -1);
            closeGap(names, place);
            closeGap(sizes, place);
            closeGap(heats, place);
            closeGap(shelves, place);
            closeGap(pins, place);
            closeGap(promises, place);
            closeGap(readings, place);
            closeGap(moves, place);
            return shelf;
        }

        private int readBlock(int block, int times) {
            int place = find(block);
            if (place == NOWHERE) {
                return UNKNOWN;
            }
            if (times < 1 || times > MOST_TIMES) {
                return OUT_OF_RANGE;
            }
            int paid = 0;
            for (int i = 0; i < times; i++) {
                paid += readOnce(place);
            }
            return paid;
        }

        private int readOnce(int place) {
            int shelf = at(shelves, place);
            int paid = at(sizes, place) * at(numbers, READING_PRICE + shelf);
            raise(numbers, PAID_FOR_READINGS, paid);
            raise(readings, place, 1);
            put(heats, place, Math.min(at(heats, place) + HEAT_OF_READING, MOST_HEAT));
            return shelf == DEEP ? paid + askBack(place) : paid;
        }

        private int askBack(int place) {
            int size = at(sizes, place);
            int fee = size * at(numbers, FEE) * at(promises, place);
            raise(numbers, PAID_FOR_FEES, fee);
            raise(numbers, ASKED_BACK, 1);
            put(promises, place, 0);
            if (hasRoom(FAST, size)) {
                moveTo(place, FAST);
            } else if (hasRoom(SLOW, size)) {
                moveTo(place, SLOW);
            }
            return fee;
        }

        private void moveTo(int place, int shelf) {
            int size = at(sizes, place);
            raise(taken, at(shelves, place), -size);
            raise(taken, shelf, size);
            put(shelves, place, shelf);
            raise(moves, place, 1);
        }

        private void payNight() {
            raise(numbers, NIGHTS, 1);
            for (int shelf = 0; shelf < SHELVES; shelf++) {
                raise(numbers, PAID_FOR_NIGHTS, nightPriceOfShelf(shelf));
            }
        }

        private void fade() {
            int count = countBlocks();
            int fade = at(numbers, FADE);
            for (int i = 0; i < count; i++) {
                put(heats, i, at(heats, i) * fade / 100);
                put(promises, i, Math.max(at(promises, i) - 1, 0));
            }
        }

        private int turnPin(int block, boolean isPinned) {
            int place = find(block);
            if (place == NOWHERE) {
                return UNKNOWN;
            }
            int pin = isPinned ? 1 : 0;
            if (at(pins, place) == pin) {
                return NONE;
            }
            put(pins, place, pin);
            return countPinned();
        }

        private int flipPin(int block) {
            return turnPin(block, at(pins, find(block)) == 0);
        }

        private int changeSetting(int setting, int value) {
            if (setting < 0 || setting >= SETTINGS) {
                return UNKNOWN;
            }
            if (value < 0 || value > at(GREATEST_VALUES, setting)) {
                return OUT_OF_RANGE;
            }
            if (!allowsSetting(setting, value)) {
                return NOT_POSSIBLE;
            }
            int before = at(numbers, setting);
            if (before == value) {
                return NONE;
            }
            put(numbers, setting, value);
            return before;
        }

        private boolean allowsSetting(int setting, int value) {
            if (setting == HOT) {
                return at(numbers, WARM) <= value;
            }
            if (setting == WARM) {
                return value <= at(numbers, HOT);
            }
            if (setting >= ROOM && setting < ROOM + SHELVES) {
                return at(taken, setting - ROOM) <= value;
            }
            return true;
        }
    }

    /** Lets nights pass, and tells of the last one, by places, why a block stayed. */
    private static final class Night {
        private final int[] wanted = new int[MOST_BLOCKS];
        private final int[] reasons = new int[MOST_BLOCKS];

        private int letPass(State state, int nights) {
            int most = at(state.numbers, MOVES);
            int moved = 0;
            for (int i = 0; i < nights; i++) {
                state.payNight();
                state.fade();
                findWhoMayMove(state);
                int down = moveInTurn(state, true, most);
                moved += down + moveInTurn(state, false, most - down);
            }
            raise(state.numbers, NIGHT_MOVES, moved);
            return moved;
        }

        // A block that may move waits with MOVES_USED_UP, which is its reason if its turn never comes.
        private void findWhoMayMove(State state) {
            int count = state.countBlocks();
            for (int i = 0; i < count; i++) {
                int reason = MOVES_USED_UP;
                put(wanted, i, state.wantedShelf(i));
                if (at(state.pins, i) != 0) {
                    reason = IS_PINNED;
                } else if (at(state.promises, i) > 0) {
                    reason = IS_PROMISED;
                } else if (at(wanted, i) == at(state.shelves, i)) {
                    reason = IS_WHERE_WANTED;
                }
                put(reasons, i, reason);
            }
        }

        private int moveInTurn(State state, boolean isDown, int most) {
            int moved = 0;
            for (int turn = 0; turn < MOST_BLOCKS && moved < most; turn++) {
                int place = nextInTurn(state, isDown);
                if (place == NOWHERE) {
                    return moved;
                }
                int shelf = shelfToMoveTo(state, place);
                if (shelf == NOWHERE) {
                    put(reasons, place, NO_ROOM);
                } else {
                    put(reasons, place, MOVED);
                    state.moveTo(place, shelf);
                    promiseIfDeep(state, place);
                    moved++;
                }
            }
            return moved;
        }

        private int nextInTurn(State state, boolean isDown) {
            int count = at(state.numbers, BLOCKS);
            int next = NOWHERE;
            int least = 0;
            for (int i = 0; i < count; i++) {
                boolean wantsDown = at(wanted, i) > at(state.shelves, i);
                if (at(reasons, i) == MOVES_USED_UP && wantsDown == isDown) {
                    int order = isDown ? at(state.heats, i) : -at(state.heats, i);
                    if (next == NOWHERE || order < least) {
                        next = i;
                        least = order;
                    }
                }
            }
            return next;
        }

        private int shelfToMoveTo(State state, int place) {
            int size = at(state.sizes, place);
            int goal = at(wanted, place);
            if (state.hasRoom(goal, size)) {
                return goal;
            }
            boolean passesSlow = Math.abs(goal - at(state.shelves, place)) == DEEP - FAST;
            return passesSlow && state.hasRoom(SLOW, size) ? SLOW : NOWHERE;
        }

        private void promiseIfDeep(State state, int place) {
            if (at(state.shelves, place) == DEEP) {
                put(state.promises, place, at(state.numbers, PROMISE));
            }
        }
    }

    /** The latest states, in a ring: the oldest one is at first. */
    private static final class History {
        private final State[] states = new State[MOST_STATES];
        private int first = 0;
        private int count = 0;

        private History() {
            for (int i = 0; i < states.length; i++) {
                states[i] = new State();
            }
        }

        private State stateAt(int age) {
            int index = (first + age) % MOST_STATES;
            return index >= 0 && index < states.length ? states[index] : null;
        }

        private void record(State now) {
            if (count >= MOST_STATES) {
                first = (first + 1) % MOST_STATES;
                count--;
            }
            State slot = stateAt(count);
            if (slot != null) {
                slot.copyFrom(now);
                count++;
            }
        }

        private boolean takeLatest(State into) {
            if (count <= 0) {
                return false;
            }
            State latest = stateAt(count - 1);
            if (latest == null) {
                return false;
            }
            into.copyFrom(latest);
            count--;
            return true;
        }
    }

    /** The text, and the orders that were read from it. */
    private static final class Orders {
        private final int[] signs = new int[MOST_SIGNS];
        private int length = 0;
        private final int[] kinds = new int[MOST_ORDERS];
        private final int[] values = new int[MOST_ORDERS];
        private final int[] times = new int[MOST_ORDERS];
        private int count = 0;
        private int place = 0;

        private int append(char sign) {
            if (length >= MOST_SIGNS) {
                return FULL;
            }
            put(signs, length, sign);
            length++;
            return length;
        }

        private int empty() {
            int before = length;
            length = 0;
            return before;
        }

        /** Reads the orders from the whole text; returns its fault, or NO_FAULT. */
        private int readAll() {
            count = 0;
            place = 0;
            for (int i = 0; i < MOST_ORDERS; i++) {
                if (!readOrder()) {
                    return place;
                }
                if (place >= length) {
                    return NO_FAULT;
                }
                if (signHere() != ',') {
                    return place;
                }
                place++;
            }
            return place;
        }

        // What can't be read is left at the place, so that the place is the fault then.
        private boolean readOrder() {
            int kind = signHere();
            if (!isKind(kind)) {
                return false;
            }
            place++;
            int value = readNumber(leastOf(kind), greatestOf(kind));
            if (value < 0) {
                return false;
            }
            int often = 1;
            if (kind == 'r' && signHere() == '*') {
                place++;
                often = readNumber(1, MOST_TIMES);
                if (often < 0) {
                    return false;
                }
            }
            put(kinds, count, kind);
            put(values, count, value);
            put(times, count, often);
            count++;
            return true;
        }

        private boolean isKind(int sign) {
            return sign == '+' || sign == '-' || sign == 'r' || sign == 'p' || sign == 'n';
        }

        private int leastOf(int kind) {
            return kind == '+' || kind == 'n' ? 1 : 0;
        }

        private int greatestOf(int kind) {
            if (kind == '+') {
                return MOST_SIZE;
            }
            return kind == 'n' ? MOST_TIMES : MOST_NUMBER;
        }

        /** Reads a number as far as it is allowed; returns it, or -1 if there is none. The least one is 0 or 1. */
        private int readNumber(int least, int greatest) {
            int value = digitHere();
            if (value < least) {
                return -1;
            }
            place++;
            while (value > 0 && place < length) {
                int digit = digitHere();
                if (digit < 0 || value * 10 + digit > greatest) {
                    return value;
                }
                value = value * 10 + digit;
                place++;
            }
            return value;
        }

        private int digitHere() {
            int sign = signHere();
            return sign >= '0' && sign <= '9' ? sign - '0' : -1;
        }

        private int signHere() {
            return place < length ? at(signs, place) : -1;
        }
    }
}
