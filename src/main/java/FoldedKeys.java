/**
 * Keys and doors in a folded corridor for one hand. What each call promises
 * stands in ../shared/DOC.md.
 */
public final class FoldedKeys {

    public static final int NONE = -1;

    private static final int CELLS = 16;
    private static final int DOORS = 15;
    private static final int MOST_BOW = 5;
    private static final int MOST_KEYS = 2;
    private static final int STEPS = 5;
    private static final int SWAP = 4;
    private static final int FIRST_LENGTH = 4;
    private static final int LEAST_LENGTH = 2;
    private static final int MOST_LENGTH = 8;
    private static final int MOST_BUFFER = 60;
    private static final int MOST_SAVED = 6;
    private static final int NO_WAY = 1;
    private static final int LOCKED = 2;

    private final Corridor now = new Corridor();
    private final Corridor other = new Corridor();
    private final Saves saves = new Saves();
    private final Search search = new Search();
    private final Text text = new Text();

    public FoldedKeys() {
    }

    // ---- the corridor

    public int door(int cell, int lock) throws IndexOutOfBoundsException, IllegalArgumentException {
        if (!isDoor(cell)) {
            throw new IndexOutOfBoundsException("no such place for a door");
        }
        if (!isBow(lock)) {
            throw new IllegalArgumentException("lock is not 0 to 5");
        }
        saves.push(now);
        int previous = now.lockBehind(cell);
        now.setLock(cell, lock);
        return previous;
    }

    public int key(int cell, int bow)
            throws IndexOutOfBoundsException, IllegalArgumentException, IllegalStateException {
        if (!isCell(cell)) {
            throw new IndexOutOfBoundsException("no such cell");
        }
        if (!isBow(bow)) {
            throw new IllegalArgumentException("bow is not 0 to 5");
        }
        int previous = now.bowIn(now.code, cell);
        if (bow != 0 && previous == 0 && now.keys() >= MOST_KEYS) {
            throw new IllegalStateException("there would be more than 2 keys");
        }
        saves.push(now);
        now.putKey(cell, bow);
        return previous;
    }

    public int ladder(int cell, boolean has) throws IndexOutOfBoundsException {
        if (!isCell(cell)) {
            throw new IndexOutOfBoundsException("no such cell");
        }
        saves.push(now);
        int previous = now.ladderIn(cell);
        now.setLadder(cell, has ? 1 : 0);
        return previous;
    }

    public int fold(int length) throws IllegalArgumentException {
        if (length < LEAST_LENGTH || length > MOST_LENGTH) {
            throw new IllegalArgumentException("length is not 2 to 8");
        }
        saves.push(now);
        int previous = now.length;
        now.length = length;
        return previous;
    }

    // ---- walking

    public int stand(int cell) throws IndexOutOfBoundsException {
        if (!isCell(cell)) {
            throw new IndexOutOfBoundsException("no such cell");
        }
        saves.push(now);
        int previous = Code.cellOf(now.code);
        now.code = Code.movedTo(now.code, cell);
        return previous;
    }

    public int step(int step) throws IllegalArgumentException, IllegalStateException {
        if (!isStep(step)) {
            throw new IllegalArgumentException("step is not 0 to 4");
        }
        if (now.reasonAgainst(step) != 0) {
            throw new IllegalStateException("the step is refused");
        }
        saves.push(now);
        now.take(step);
        return Code.cellOf(now.code);
    }

    public int walk(int cell) throws IndexOutOfBoundsException, IllegalStateException {
        if (!isCell(cell)) {
            throw new IndexOutOfBoundsException("no such cell");
        }
        search.run(now);
        int length = search.lengthTo(cell);
        if (length == NONE) {
            throw new IllegalStateException("there is no plan to the cell");
        }
        saves.push(now);
        for (int place = 0; place < length; place++) {
            now.take(search.stepTo(cell, place));
        }
        return length;
    }

    // ---- texts

    public int append(int code) throws IllegalArgumentException, IllegalStateException {
        if (code < 33 || code > 126) {
            throw new IllegalArgumentException("code is not 33 to 126");
        }
        if (text.length >= MOST_BUFFER) {
            throw new IllegalStateException("the buffer is full");
        }
        text.add(code);
        return text.length;
    }

    public int clearBuffer() {
        int previous = text.length;
        text.length = 0;
        return previous;
    }

    public int firstError() {
        return readText();
    }

    public int corridor() throws IllegalArgumentException {
        if (readText() < text.length || text.cells < CELLS) {
            throw new IllegalArgumentException("the buffer is no complete corridor");
        }
        saves.push(now);
        now.copyFrom(other);
        text.length = 0;
        return now.keys();
    }

    public int undo() throws IllegalStateException {
        if (saves.size == 0) {
            throw new IllegalStateException("there is no saved state");
        }
        saves.popInto(now);
        return saves.size;
    }

    // ---- looks; nothing is changed

    public int cell(int cell, int what) throws IndexOutOfBoundsException, IllegalArgumentException {
        if (!isCell(cell)) {
            throw new IndexOutOfBoundsException("no such cell");
        }
        if (what < 0 || what > 6) {
            throw new IllegalArgumentException("what is not 0 to 6");
        }
        if (what == 6) {
            search.run(now);
        }
        return numberOfCell(cell, what);
    }

    public int walker(int what) throws IllegalArgumentException {
        if (what < 0 || what > 4) {
            throw new IllegalArgumentException("what is not 0 to 4");
        }
        return numberOfWalker(what);
    }

    public int plan(int cell, int place) throws IndexOutOfBoundsException, IllegalArgumentException {
        if (!isCell(cell)) {
            throw new IndexOutOfBoundsException("no such cell");
        }
        if (place < 0) {
            throw new IllegalArgumentException("place is below 0");
        }
        search.run(now);
        return search.stepTo(cell, place);
    }

    public int count(int what) throws IllegalArgumentException {
        if (what < 0 || what > 6) {
            throw new IllegalArgumentException("what is not 0 to 6");
        }
        if (what == 3 || what == 4) {
            search.run(now);
        }
        return numberInAll(what);
    }

    // ---- what would be; nothing is changed

    public int refusal(int step) throws IllegalArgumentException {
        if (!isStep(step)) {
            throw new IllegalArgumentException("step is not 0 to 4");
        }
        return now.reasonAgainst(step);
    }

    public int ifDoor(int cell, int lock) throws IndexOutOfBoundsException, IllegalArgumentException {
        if (!isDoor(cell)) {
            throw new IndexOutOfBoundsException("no such place for a door");
        }
        if (!isBow(lock)) {
            throw new IllegalArgumentException("lock is not 0 to 5");
        }
        return reachedWithDoor(cell, lock);
    }

    public int without(int cell) throws IndexOutOfBoundsException {
        if (!isCell(cell)) {
            throw new IndexOutOfBoundsException("no such cell");
        }
        return reachedWithoutKey(cell);
    }

    public int bestFold() {
        int best = LEAST_LENGTH;
        int bestReached = 0;
        int bestSum = 0;
        other.copyFrom(now);
        for (int length = LEAST_LENGTH; length <= MOST_LENGTH; length++) {
            other.length = length;
            search.run(other);
            int sum = search.sumOfLengths();
            if (search.reached > bestReached || (search.reached == bestReached && sum < bestSum)) {
                best = length;
                bestReached = search.reached;
                bestSum = sum;
            }
        }
        return best;
    }

    public double reached() {
        search.run(now);
        return (double) search.reached / 16.0;
    }

    public long digest() {
        search.run(now);
        // The search of what would be writes over these, so they are read first.
        int reached = search.reached;
        long hash = digestOfLooks(3319L);
        hash = mix(hash, reachedWithoutKey(0));
        hash = mix(hash, reachedWithDoor(7, 3));
        hash = mix(hash, bitsOfShare(reached));
        hash = mix(hash, text.length);
        for (int index = 0; index < text.length; index++) {
            hash = mix(hash, text.codeAt(index));
        }
        return hash;
    }

    // ---- what the calls share

    private static boolean isCell(int cell) {
        return cell >= 0 && cell < CELLS;
    }

    private static boolean isDoor(int cell) {
        return cell >= 0 && cell < DOORS;
    }

    private static boolean isBow(int bow) {
        return bow >= 0 && bow <= MOST_BOW;
    }

    private static boolean isStep(int step) {
        return step >= 0 && step < STEPS;
    }

    private static long mix(long hash, long value) {
        return 31L * hash + value;
    }

    /** Reads the buffer into the other corridor; answers the first error. */
    private int readText() {
        other.copyFrom(now);
        other.clear();
        return text.readInto(other);
    }

    private int reachedWithDoor(int cell, int lock) {
        other.copyFrom(now);
        other.setLock(cell, lock);
        search.run(other);
        return search.reached;
    }

    private int reachedWithoutKey(int cell) {
        other.copyFrom(now);
        other.putKey(cell, 0);
        search.run(other);
        return search.reached;
    }

    /** For 6 the search must have run on the corridor as it is. */
    private int numberOfCell(int cell, int what) {
        switch (what) {
            case 0:
                return now.bowIn(now.code, cell);
            case 1:
                return now.lockBehind(cell);
            case 2:
                return now.ladderIn(cell);
            case 3:
                return now.floorOf(cell);
            case 4:
                return now.cellBelow(cell);
            case 5:
                return now.cellAbove(cell);
            default:
                return search.lengthTo(cell);
        }
    }

    private int numberOfWalker(int what) {
        switch (what) {
            case 0:
                return Code.cellOf(now.code);
            case 1:
                return now.bowIn(now.code, Code.HAND);
            case 2:
                return now.stepsTaken;
            case 3:
                return now.swaps;
            default:
                return now.doorsPassed;
        }
    }

    /** For 3 and 4 the search must have run on the corridor as it is. */
    private int numberInAll(int what) {
        switch (what) {
            case 0:
                return now.keys();
            case 1:
                return now.doors();
            case 2:
                return now.laddersBetween();
            case 3:
                return search.reached;
            case 4:
                return search.mostLength();
            case 5:
                return now.length;
            default:
                return saves.size;
        }
    }

    private long digestOfLooks(long start) {
        long hash = start;
        for (int what = 0; what <= 6; what++) {
            hash = mix(hash, numberInAll(what));
        }
        for (int what = 0; what <= 4; what++) {
            hash = mix(hash, numberOfWalker(what));
        }
        for (int cell = 0; cell < CELLS; cell++) {
            for (int what = 0; what <= 6; what++) {
                hash = mix(hash, numberOfCell(cell, what));
            }
        }
        for (int step = 0; step < STEPS; step++) {
            hash = mix(hash, now.reasonAgainst(step));
        }
        int length = search.lengthTo(CELLS - 1);
        for (int place = 0; place < length; place++) {
            hash = mix(hash, search.stepTo(CELLS - 1, place));
        }
        return hash;
    }

    /**
     * The bits of cells / 16 as a double. By hand, as the language leaves out
     * Double; cells is at least 1, the walker's own.
     */
    private static long bitsOfShare(int cells) {
        int top = 0;
        while (top < 4 && (cells >> (top + 1)) > 0) {
            top++;
        }
        long exponent = 1023L + top - 4L;
        long fraction = (long) (cells - (1 << top)) << (52 - top);
        return (exponent << 52) | fraction;
    }

    /**
     * Where the walker and both keys are, in one int: 4 bits for the walker's
     * cell, 5 for the place of either key.
     */
    private static final class Code {
        static final int HAND = 16;
        static final int NOWHERE = 17;
        static final int ALL = 1 << 14;

        static int of(int cell, int first, int second) {
            return cell | (first << 4) | (second << 9);
        }

        static int cellOf(int code) {
            return code & 15;
        }

        static int firstOf(int code) {
            return (code >> 4) & 31;
        }

        static int secondOf(int code) {
            return (code >> 9) & 31;
        }

        static int movedTo(int code, int cell) {
            return of(cell, firstOf(code), secondOf(code));
        }

        static int swapped(int code) {
            int cell = cellOf(code);
            return of(cell, swappedPlace(firstOf(code), cell), swappedPlace(secondOf(code), cell));
        }

        private static int swappedPlace(int place, int cell) {
            if (place == HAND) {
                return cell;
            }
            return place == cell ? HAND : place;
        }
    }

    /** All that undo brings back: doors, keys, ladders, setting, walker, counts. */
    private static final class Corridor {
        private final int[] locks = new int[DOORS];
        private final int[] ladders = new int[CELLS];
        // A bow is 0 exactly when its key is nowhere.
        private int firstBow;
        private int secondBow;
        private int code = Code.of(0, Code.NOWHERE, Code.NOWHERE);
        private int length = FIRST_LENGTH;
        private int stepsTaken;
        private int swaps;
        private int doorsPassed;

        void copyFrom(Corridor from) {
            for (int cell = 0; cell < DOORS; cell++) {
                locks[cell] = from.locks[cell];
            }
            for (int cell = 0; cell < CELLS; cell++) {
                ladders[cell] = from.ladders[cell];
            }
            firstBow = from.firstBow;
            secondBow = from.secondBow;
            code = from.code;
            length = from.length;
            stepsTaken = from.stepsTaken;
            swaps = from.swaps;
            doorsPassed = from.doorsPassed;
        }

        /** Takes out doors, ladders and keys; the setting and the counts stay. */
        void clear() {
            for (int cell = 0; cell < DOORS; cell++) {
                locks[cell] = 0;
            }
            for (int cell = 0; cell < CELLS; cell++) {
                ladders[cell] = 0;
            }
            firstBow = 0;
            secondBow = 0;
            code = Code.of(0, Code.NOWHERE, Code.NOWHERE);
        }

        void setLock(int cell, int lock) {
            if (isDoor(cell)) {
                locks[cell] = lock;
            }
        }

        int lockBehind(int cell) {
            return isDoor(cell) ? locks[cell] : 0;
        }

        void setLadder(int cell, int has) {
            if (isCell(cell)) {
                ladders[cell] = has;
            }
        }

        int ladderIn(int cell) {
            return isCell(cell) ? ladders[cell] : 0;
        }

        /** Lays a key into a cell, or takes it out; there must be room for it. */
        void putKey(int cell, int bow) {
            int first = Code.firstOf(code);
            int second = Code.secondOf(code);
            int place = bow == 0 ? Code.NOWHERE : cell;
            if (first == cell || (second != cell && first == Code.NOWHERE)) {
                firstBow = bow;
                first = place;
            } else if (second == cell || second == Code.NOWHERE) {
                secondBow = bow;
                second = place;
            }
            code = Code.of(Code.cellOf(code), first, second);
        }

        int bowIn(int from, int place) {
            if (Code.firstOf(from) == place) {
                return firstBow;
            }
            return Code.secondOf(from) == place ? secondBow : 0;
        }

        int keys() {
            return (firstBow != 0 ? 1 : 0) + (secondBow != 0 ? 1 : 0);
        }

        int doors() {
            int doors = 0;
            for (int cell = 0; cell < DOORS; cell++) {
                if (locks[cell] != 0) {
                    doors++;
                }
            }
            return doors;
        }

        int laddersBetween() {
            int between = 0;
            for (int cell = 0; cell < CELLS; cell++) {
                if (cellAbove(cell) != NONE) {
                    between++;
                }
            }
            return between;
        }

        int floorOf(int cell) {
            return length > 0 ? cell / length : 0;
        }

        int cellBelow(int cell) {
            return byLadder(cell, 2 * length * floorOf(cell) - 1 - cell);
        }

        int cellAbove(int cell) {
            return byLadder(cell, 2 * length * (floorOf(cell) + 1) - 1 - cell);
        }

        private int byLadder(int cell, int partner) {
            // Spelled out, as the search calls this deep enough already (LANGUAGE.md, rule 11).
            if (cell < 0 || cell >= CELLS || partner < 0 || partner >= CELLS) {
                return NONE;
            }
            return ladders[cell] != 0 || ladders[partner] != 0 ? partner : NONE;
        }

        /** The code after a step from a code, or the reason against it, negated. */
        int after(int from, int step) {
            int cell = Code.cellOf(from);
            if (step == SWAP) {
                boolean none = bowIn(from, Code.HAND) == 0 && bowIn(from, cell) == 0;
                return none ? -NO_WAY : Code.swapped(from);
            }
            int target = targetOf(cell, step);
            if (target == NONE) {
                return -NO_WAY;
            }
            int lock = lockOnWay(cell, step);
            if (lock != 0 && lock != bowIn(from, Code.HAND)) {
                return -LOCKED;
            }
            return Code.movedTo(from, target);
        }

        private int targetOf(int cell, int step) {
            switch (step) {
                case 0:
                    return cell > 0 ? cell - 1 : NONE;
                case 1:
                    return cell < CELLS - 1 ? cell + 1 : NONE;
                case 2:
                    return cellBelow(cell);
                case 3:
                    return cellAbove(cell);
                default:
                    return NONE;
            }
        }

        private int lockOnWay(int cell, int step) {
            if (step == 0) {
                return lockBehind(cell - 1);
            }
            return step == 1 ? lockBehind(cell) : 0;
        }

        int reasonAgainst(int step) {
            int next = after(code, step);
            return next < 0 ? -next : 0;
        }

        void take(int step) {
            int next = after(code, step);
            if (next < 0) {
                return;
            }
            stepsTaken++;
            if (step == SWAP) {
                swaps++;
            }
            if (lockOnWay(Code.cellOf(code), step) != 0) {
                doorsPassed++;
            }
            code = next;
        }
    }

    /**
     * Finds the plans to all cells at once. It tries the codes in the order in
     * which they were come to, and their steps from 0 on; so the codes of one
     * distance stand in the order of their first rows of steps, and the first
     * code in a cell ends the plan to it.
     */
    private static final class Search {
        private static final int MOST_CODES = CELLS * 17 * 17;

        // Each entry: the code, the last step (3 bits) and the entry before it.
        private final int[] entries = new int[MOST_CODES];
        private final long[] seen = new long[Code.ALL / 64];
        private final int[] ends = new int[CELLS];
        private final int[] lengths = new int[CELLS];
        private int size;
        private int reached;

        void run(Corridor corridor) {
            forget();
            add(corridor.code, 0, 0, 0);
            int length = 1;
            int levelEnd = 1;
            for (int index = 0; index < size && index < MOST_CODES && reached < CELLS; index++) {
                if (index == levelEnd) {
                    length++;
                    levelEnd = size;
                }
                int code = codeOf(entries[index]);
                for (int step = 0; step < STEPS; step++) {
                    int next = corridor.after(code, step);
                    if (next >= 0) {
                        add(next, step, index, length);
                    }
                }
            }
        }

        private void forget() {
            size = 0;
            reached = 0;
            for (int index = 0; index < seen.length; index++) {
                seen[index] = 0L;
            }
            for (int cell = 0; cell < CELLS; cell++) {
                ends[cell] = 0;
                lengths[cell] = NONE;
            }
        }

        private void add(int code, int step, int before, int length) {
            int row = (code >> 6) & (Code.ALL / 64 - 1);
            long bit = 1L << (code & 63);
            if ((seen[row] & bit) != 0L || size >= MOST_CODES) {
                return;
            }
            seen[row] |= bit;
            entries[size] = code | (step << 14) | (before << 17);
            int cell = Code.cellOf(code);
            if (lengths[cell] == NONE) {
                lengths[cell] = length;
                ends[cell] = size;
                reached++;
            }
            size++;
        }

        private static int codeOf(int entry) {
            return entry & (Code.ALL - 1);
        }

        private static int stepOf(int entry) {
            return (entry >> 14) & 7;
        }

        private static int beforeOf(int entry) {
            return entry >> 17;
        }

        int lengthTo(int cell) {
            return isCell(cell) ? lengths[cell] : NONE;
        }

        int stepTo(int cell, int place) {
            if (!isCell(cell) || place < 0 || place >= lengths[cell]) {
                return NONE;
            }
            int entry = entryAt(ends[cell]);
            for (int last = lengths[cell] - 1; last > place; last--) {
                entry = entryAt(beforeOf(entry));
            }
            return stepOf(entry);
        }

        private int entryAt(int index) {
            return index >= 0 && index < MOST_CODES ? entries[index] : 0;
        }

        int mostLength() {
            int most = 0;
            for (int cell = 0; cell < CELLS; cell++) {
                most = Math.max(most, lengths[cell]);
            }
            return most;
        }

        int sumOfLengths() {
            int sum = 0;
            for (int cell = 0; cell < CELLS; cell++) {
                sum += Math.max(0, lengths[cell]);
            }
            return sum;
        }
    }

    /** The saved states, in a ring of corridors that are made once. */
    private static final class Saves {
        private final Corridor[] ring = new Corridor[MOST_SAVED];
        private int next;
        private int size;

        Saves() {
            for (int index = 0; index < MOST_SAVED; index++) {
                ring[index] = new Corridor();
            }
        }

        void push(Corridor state) {
            Corridor slot = slotAt(next);
            if (slot == null) {
                return;
            }
            slot.copyFrom(state);
            next = (next + 1) % MOST_SAVED;
            size = Math.min(size + 1, MOST_SAVED);
        }

        void popInto(Corridor state) {
            int latest = (next + MOST_SAVED - 1) % MOST_SAVED;
            Corridor slot = slotAt(latest);
            if (slot == null || size == 0) {
                return;
            }
            state.copyFrom(slot);
            next = latest;
            size--;
        }

        private Corridor slotAt(int index) {
            return index >= 0 && index < MOST_SAVED ? ring[index] : null;
        }
    }

    /** The buffer, and how it is read. */
    private static final class Text {
        // What the character before was: it tells what may stand next.
        private static final int START = 0;
        private static final int KEY = 1;
        private static final int LADDER = 2;
        private static final int DOOR = 3;

        private final int[] codes = new int[MOST_BUFFER];
        private int length;
        private int cells;
        private int last;

        void add(int code) {
            if (length >= 0 && length < MOST_BUFFER) {
                codes[length] = code;
                length++;
            }
        }

        int codeAt(int index) {
            return index >= 0 && index < MOST_BUFFER ? codes[index] : 0;
        }

        /** Fills an empty corridor up to the first error, and answers its index. */
        int readInto(Corridor corridor) {
            cells = 0;
            last = START;
            for (int index = 0; index < length; index++) {
                if (!take(codeAt(index), corridor)) {
                    return index;
                }
            }
            return length;
        }

        private boolean take(int code, Corridor corridor) {
            if (code == '.' || (code >= '1' && code <= '5')) {
                return takeKey(code == '.' ? 0 : code - '0', corridor);
            }
            if (code == '|') {
                return takeLadder(corridor);
            }
            return code >= 'a' && code <= 'e' && takeDoor(code - 'a' + 1, corridor);
        }

        private boolean takeKey(int bow, Corridor corridor) {
            if (cells >= CELLS || (bow != 0 && corridor.keys() >= MOST_KEYS)) {
                return false;
            }
            corridor.putKey(cells, bow);
            cells++;
            last = KEY;
            return true;
        }

        private boolean takeLadder(Corridor corridor) {
            if (last != KEY) {
                return false;
            }
            corridor.setLadder(cells - 1, 1);
            last = LADDER;
            return true;
        }

        private boolean takeDoor(int lock, Corridor corridor) {
            if ((last != KEY && last != LADDER) || cells >= CELLS) {
                return false;
            }
            corridor.setLock(cells - 1, lock);
            last = DOOR;
            return true;
        }
    }
}
