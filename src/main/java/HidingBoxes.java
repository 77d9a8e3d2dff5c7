import java.util.Arrays;

/**
 * Boxes that are seen from above at one corner: who hides whom, the order in which they are
 * drawn, rings of boxes that hide one another around, feet and shadows, texts of boxes, and a
 * history.
 */
public final class HidingBoxes {
    /** There is no such box, direction or setting. */
    public static final int UNKNOWN = -1;
    /** Another argument is out of its range. */
    public static final int OUT_OF_RANGE = -2;
    /** There is no more room. */
    public static final int FULL = -3;
    /** This is not possible in the present state. */
    public static final int NOT_POSSIBLE = -4;
    /** There is no such thing; this is not an error. */
    public static final int NONE = -5;

    private static final int X = 0;
    private static final int Y = 1;
    private static final int Z = 2;
    private static final int DIRECTIONS = 3;
    private static final int SPACE_END = 32;
    private static final int GREATEST_CORNER = 31;
    private static final int GREATEST_SIZE = 12;
    private static final int MOST_BOXES = 16;
    private static final int MOST_STATES = 4;
    private static final int MOST_SIGNS = 80;
    private static final int NUMBERS_OF_A_BOX = 6;

    private static final int RULE_SETTING = 0;
    private static final int BY_CORNER = 1;
    private static final int BY_VOLUME = 2;

    private static final int FAULT_OF_TEXT = -100;
    /** A slot is a place in the row of the boxes, which lie there by their numbers. */
    private static final int NO_SLOT = -1;
    private static final int NO_DIRECTION = -1;
    private static final int NO_FAULT = -1;
    private static final int NO_DIGIT = -1;
    private static final int NOT_ALLOWED = -2;

    private final Space now = new Space();
    /** A change is tried here first, so that an error leaves the state as it was. */
    private final Space trial = new Space();
    private final Space snapshot = new Space();
    private boolean hasSnapshot;
    private final History history = new History();
    private final Text text = new Text();
    private final Picture picture = new Picture();
    private final Picture turnedPicture = new Picture();
    private final Box newcomer = new Box();

    /** Creates a space without boxes. */
    public HidingBoxes() {
        hasSnapshot = false;
    }

    // ---- boxes

    /** Puts a box into the space; answers its number. */
    public int add(int x, int y, int z, int dx, int dy, int dz) {
        trial.copyFrom(now);
        int answer = enter(trial, x, y, z, dx, dy, dz);
        if (answer >= 0) {
            adoptTrial();
        }
        return answer;
    }

    /** Takes a box away; answers its volume. */
    public int remove(int box) {
        int slot = now.slotOf(box);
        if (slot == NO_SLOT) {
            return UNKNOWN;
        }
        int volume = now.boxes[slot].volume();
        trial.copyFrom(now);
        trial.takeOut(slot);
        adoptTrial();
        return volume;
    }

    /** Moves a box; answers its low end in the direction then. */
    public int move(int box, int direction, int by) {
        int slot = now.slotOf(box);
        if (slot == NO_SLOT || !isDirection(direction)) {
            return UNKNOWN;
        }
        trial.copyFrom(now);
        Box moved = trial.boxes[slot];
        // Compared with what is left on each side, so that no sum can run over.
        if (by < -moved.low[direction] || by > SPACE_END - moved.high[direction]) {
            return OUT_OF_RANGE;
        }
        moved.shift(direction, by);
        if (trial.isCutBy(moved, slot)) {
            return NOT_POSSIBLE;
        }
        if (by == 0) {
            return NONE;
        }
        adoptTrial();
        return now.boxes[slot].low[direction];
    }

    /** Lets a box fall; answers by how much. */
    public int fall(int box) {
        int slot = now.slotOf(box);
        if (slot == NO_SLOT) {
            return UNKNOWN;
        }
        int depth = now.boxes[slot].low[Z] - now.groundUnder(slot);
        if (depth <= 0) {
            return NONE;
        }
        trial.copyFrom(now);
        trial.boxes[slot].shift(Z, -depth);
        adoptTrial();
        return depth;
    }

    /** Splits a box; answers the number of the new one. */
    public int split(int box, int direction, int at) {
        int slot = now.slotOf(box);
        if (slot == NO_SLOT || !isDirection(direction)) {
            return UNKNOWN;
        }
        Box whole = now.boxes[slot];
        if (at <= whole.low[direction] || at >= whole.high[direction]) {
            return OUT_OF_RANGE;
        }
        if (now.isFull()) {
            return FULL;
        }
        trial.copyFrom(now);
        int number = trial.cutInTwo(slot, direction, at);
        adoptTrial();
        return number;
    }

    /** Breaks a ring; answers the number of the new box. */
    public int breakRing() {
        trial.copyFrom(now);
        int answer = breakOne(trial);
        if (answer >= 0) {
            adoptTrial();
        }
        return answer;
    }

    /** Turns all boxes by a quarter; answers how many hidings are otherwise then. */
    public int turn() {
        if (now.count == 0) {
            return NONE;
        }
        trial.copyFrom(now);
        trial.quarterTurn();
        picture.look(now);
        turnedPicture.look(trial);
        int lost = picture.hidingsNotIn(turnedPicture);
        adoptTrial();
        return lost;
    }

    /** Changes the setting; answers the previous value. */
    public int set(int setting, int value) {
        if (setting != RULE_SETTING) {
            return UNKNOWN;
        }
        if (value < 0 || value > BY_VOLUME) {
            return OUT_OF_RANGE;
        }
        int previous = now.rule;
        if (value == previous) {
            return NONE;
        }
        trial.copyFrom(now);
        trial.rule = value;
        adoptTrial();
        return previous;
    }

    // ---- texts

    /** Appends a character to the text; answers the length then. */
    public int type(char character) {
        return text.append(character) ? text.length : FULL;
    }

    /** Empties the text; answers the length that it had. */
    public int clearText() {
        int had = text.length;
        text.length = 0;
        return had;
    }

    /** Adds all boxes of the text, or none; answers how many. */
    public int addAll() {
        int fault = text.read();
        if (fault != NO_FAULT) {
            return FAULT_OF_TEXT - fault;
        }
        trial.copyFrom(now);
        int boxes = text.boxCount();
        for (int i = 0; i < boxes; i++) {
            int answer = enter(trial, text.valueOf(i, 0), text.valueOf(i, 1), text.valueOf(i, 2),
                    text.valueOf(i, 3), text.valueOf(i, 4), text.valueOf(i, 5));
            if (answer < 0) {
                return answer;
            }
        }
        adoptTrial();
        return boxes;
    }

    // ---- history

    /** Restores the latest state of the history; answers how many are left. */
    public int undo() {
        if (history.count == 0) {
            return NONE;
        }
        history.recall(now);
        return history.count;
    }

    /** Takes a snapshot; answers how many boxes there are. */
    public int keep() {
        snapshot.copyFrom(now);
        hasSnapshot = true;
        return now.count;
    }

    /** Restores the snapshot; answers how many boxes there are then. */
    public int restore() {
        if (!hasSnapshot) {
            return NONE;
        }
        trial.copyFrom(snapshot);
        adoptTrial();
        return now.count;
    }

    // ---- what there is

    /** Answers the number of the box that comes after so many others. */
    public int box(int rank) {
        if (rank < 0) {
            return OUT_OF_RANGE;
        }
        return rank < now.count ? now.boxes[rank].number : NONE;
    }

    /** Answers an end of a box. */
    public int end(int box, int direction, boolean isHigh) {
        int slot = now.slotOf(box);
        if (slot == NO_SLOT || !isDirection(direction)) {
            return UNKNOWN;
        }
        Box it = now.boxes[slot];
        return isHigh ? it.high[direction] : it.low[direction];
    }

    /** Answers something of a box. */
    public int ofBox(int box, int what) {
        int slot = now.slotOf(box);
        if (slot == NO_SLOT) {
            return UNKNOWN;
        }
        switch (what) {
            case 0:
                return now.boxes[slot].volume();
            case 1:
                return look().hiddenBy(slot);
            case 2:
                return look().hidersOf(slot);
            case 3:
                return look().layers[slot];
            case 4:
                return look().shortestRingOf(slot);
            case 5:
                return now.supportsOf(slot);
            case 6:
                return now.boxesBelow(slot);
            case 7:
                return now.shadowOn(slot);
            case 8:
                return now.boxes[slot].low[Z] == 0 || now.supportsOf(slot) > 0 ? 1 : 0;
            default:
                return OUT_OF_RANGE;
        }
    }

    /** Tells which of two boxes hides the other one, and by which direction. */
    public int pair(int one, int other) {
        int first = now.slotOf(one);
        int second = now.slotOf(other);
        if (first == NO_SLOT || second == NO_SLOT) {
            return UNKNOWN;
        }
        if (first == second) {
            return OUT_OF_RANGE;
        }
        int forth = now.boxes[first].directionOfHiding(now.boxes[second]);
        if (forth != NO_DIRECTION) {
            return 1 + forth;
        }
        int back = now.boxes[second].directionOfHiding(now.boxes[first]);
        return back != NO_DIRECTION ? 1 + DIRECTIONS + back : 0;
    }

    /** Answers a box in the order in which they are drawn. */
    public int drawn(int place) {
        if (place < 0) {
            return OUT_OF_RANGE;
        }
        int slot = look().slotDrawn(place);
        return slot == NO_SLOT ? NONE : now.boxes[slot].number;
    }

    /** Answers a number of the whole. */
    public int total(int what) {
        switch (what) {
            case 0:
                return now.count;
            case 1:
                return now.nextNumber;
            case 2:
                return look().hidings();
            case 3:
                return look().drawnCount;
            case 4:
                return look().boxesInRings();
            case 5:
                return look().shortestRing();
            case 6:
                return look().greatestLayer();
            case 7:
                return now.splits;
            case 8:
                return now.volume();
            case 9:
                return now.shadow();
            case 10:
                return now.rule;
            case 11:
                return history.count;
            case 12:
                return text.length;
            default:
                return OUT_OF_RANGE;
        }
    }

    // ---- what would be; nothing changes

    /** Answers the first box that a box waits for. */
    public int waitsFor(int box) {
        int slot = now.slotOf(box);
        if (slot == NO_SLOT) {
            return UNKNOWN;
        }
        int awaited = look().firstNotDrawnUnder(slot);
        return awaited == NO_SLOT ? NONE : now.boxes[awaited].number;
    }

    /** Answers how many rings have to be broken until there is none. */
    public int breaks() {
        trial.copyFrom(now);
        // Each break brings a box, so that there is no room for more of them than this.
        for (int broken = 0; broken <= MOST_BOXES; broken++) {
            int answer = breakOne(trial);
            if (answer == NONE) {
                return broken;
            }
            if (answer < 0) {
                return answer;
            }
        }
        return FULL;
    }

    /** Answers how many boxes would be drawn with a box taken away. */
    public int drawnWithout(int box) {
        int slot = now.slotOf(box);
        if (slot == NO_SLOT) {
            return UNKNOWN;
        }
        trial.copyFrom(now);
        trial.takeOut(slot);
        picture.look(trial);
        return picture.drawnCount;
    }

    // ---- what the calls share

    private static boolean isDirection(int direction) {
        return direction >= 0 && direction < DIRECTIONS;
    }

    private Picture look() {
        picture.look(now);
        return picture;
    }

    /** Makes the tried change stand. */
    private void adoptTrial() {
        history.remember(now);
        now.copyFrom(trial);
    }

    /** Puts a box into a space; answers its number or the error of add(). */
    private int enter(Space space, int x, int y, int z, int dx, int dy, int dz) {
        boolean isInRange = newcomer.lay(X, x, dx) && newcomer.lay(Y, y, dy)
                && newcomer.lay(Z, z, dz);
        if (!isInRange) {
            return OUT_OF_RANGE;
        }
        if (space.isCutBy(newcomer, NO_SLOT)) {
            return NOT_POSSIBLE;
        }
        return space.isFull() ? FULL : space.append(newcomer);
    }

    /** Breaks a ring in a space; answers as breakRing() does, and changes nothing on an error. */
    private int breakOne(Space space) {
        picture.look(space);
        int slot = picture.greatestInRings(space);
        if (slot == NO_SLOT) {
            return NONE;
        }
        Box whole = space.boxes[slot];
        int direction = whole.longestDirection();
        int size = whole.size(direction);
        if (size <= 1) {
            return NOT_POSSIBLE;
        }
        if (space.isFull()) {
            return FULL;
        }
        return space.cutInTwo(slot, direction, whole.low[direction] + size / 2);
    }

    /** A box: its number and its ends in the three directions. */
    private static final class Box {
        int number;
        final int[] low = new int[DIRECTIONS];
        final int[] high = new int[DIRECTIONS];

        void copyFrom(Box other) {
            number = other.number;
            System.arraycopy(other.low, 0, low, 0, DIRECTIONS);
            System.arraycopy(other.high, 0, high, 0, DIRECTIONS);
        }

        /** Puts the ends in one direction; false, and nothing put, if they are out of range. */
        boolean lay(int direction, int from, int size) {
            if (from < 0 || from > GREATEST_CORNER || size < 1 || size > GREATEST_SIZE
                    || from + size > SPACE_END) {
                return false;
            }
            low[direction] = from;
            high[direction] = from + size;
            return true;
        }

        void shift(int direction, int by) {
            low[direction] += by;
            high[direction] += by;
        }

        int size(int direction) {
            return high[direction] - low[direction];
        }

        int volume() {
            return size(X) * size(Y) * size(Z);
        }

        int sumOfCorner() {
            return low[X] + low[Y] + low[Z];
        }

        int longestDirection() {
            int longest = X;
            for (int direction = Y; direction < DIRECTIONS; direction++) {
                if (size(direction) > size(longest)) {
                    longest = direction;
                }
            }
            return longest;
        }

        private boolean meets(Box other, int direction) {
            return low[direction] < other.high[direction] && other.low[direction] < high[direction];
        }

        boolean cuts(Box other) {
            return meets(other, X) && meets(other, Y) && meets(other, Z);
        }

        private boolean meetsInDifference(Box other, int d, int e) {
            return low[d] - high[e] < other.high[d] - other.low[e]
                    && other.low[d] - other.high[e] < high[d] - low[e];
        }

        private boolean overlapsOutlineOf(Box other) {
            return meetsInDifference(other, X, Y) && meetsInDifference(other, X, Z)
                    && meetsInDifference(other, Y, Z);
        }

        /** The direction by which this box hides the other one, or NO_DIRECTION. */
        int directionOfHiding(Box other) {
            if (!overlapsOutlineOf(other)) {
                return NO_DIRECTION;
            }
            for (int direction = 0; direction < DIRECTIONS; direction++) {
                if (low[direction] >= other.high[direction]) {
                    return direction;
                }
            }
            return NO_DIRECTION;
        }

        boolean isBelow(Box other) {
            return meets(other, X) && meets(other, Y) && high[Z] <= other.low[Z];
        }

        boolean coversRow(int y) {
            return low[Y] <= y && y < high[Y];
        }

        /** The cells of one row of the box, seen from above, as bits: bit x for the cell at x. */
        int rowOfCells() {
            return ((1 << size(X)) - 1) << low[X];
        }
    }

    /** A state: the boxes, by their numbers, and what is counted and set. */
    private static final class Space {
        final Box[] boxes = new Box[MOST_BOXES];
        int count;
        int nextNumber;
        int splits;
        int rule;

        Space() {
            for (int slot = 0; slot < MOST_BOXES; slot++) {
                boxes[slot] = new Box();
            }
        }

        void copyFrom(Space other) {
            count = other.count;
            nextNumber = other.nextNumber;
            splits = other.splits;
            rule = other.rule;
            for (int slot = 0; slot < count; slot++) {
                boxes[slot].copyFrom(other.boxes[slot]);
            }
        }

        boolean isFull() {
            return count >= MOST_BOXES;
        }

        int slotOf(int number) {
            for (int slot = 0; slot < count; slot++) {
                if (boxes[slot].number == number) {
                    return slot;
                }
            }
            return NO_SLOT;
        }

        /** Whether a box cuts one of the boxes here, but for the one at its own slot. */
        boolean isCutBy(Box box, int ownSlot) {
            for (int slot = 0; slot < count; slot++) {
                if (slot != ownSlot && boxes[slot].cuts(box)) {
                    return true;
                }
            }
            return false;
        }

        /** Puts a copy of a box behind the others; answers its number. */
        int append(Box box) {
            if (isFull()) {
                return FULL;
            }
            Box added = boxes[count];
            added.copyFrom(box);
            added.number = nextNumber;
            count++;
            nextNumber++;
            return added.number;
        }

        void takeOut(int gone) {
            for (int slot = gone; slot + 1 < count; slot++) {
                boxes[slot].copyFrom(boxes[slot + 1]);
            }
            count--;
        }

        /** Splits a box; answers the number of the new one. */
        int cutInTwo(int slot, int direction, int at) {
            int number = append(boxes[slot]);
            if (number < 0) {
                return number;
            }
            boxes[count - 1].low[direction] = at;
            boxes[slot].high[direction] = at;
            splits++;
            return number;
        }

        void quarterTurn() {
            for (int slot = 0; slot < count; slot++) {
                Box box = boxes[slot];
                int lowX = box.low[X];
                int highX = box.high[X];
                box.low[X] = SPACE_END - box.high[Y];
                box.high[X] = SPACE_END - box.low[Y];
                box.low[Y] = lowX;
                box.high[Y] = highX;
            }
        }

        /** What counts ahead of the number when the next box to be drawn is chosen. */
        int weightInDrawing(int slot) {
            switch (rule) {
                case BY_CORNER:
                    return boxes[slot].sumOfCorner();
                case BY_VOLUME:
                    return boxes[slot].volume();
                default:
                    return 0;
            }
        }

        int volume() {
            int sum = 0;
            for (int slot = 0; slot < count; slot++) {
                sum += boxes[slot].volume();
            }
            return sum;
        }

        /** The height at which a box comes to lie when it falls. */
        int groundUnder(int fallen) {
            int height = 0;
            for (int slot = 0; slot < count; slot++) {
                if (boxes[slot].isBelow(boxes[fallen])) {
                    height = Math.max(height, boxes[slot].high[Z]);
                }
            }
            return height;
        }

        int boxesBelow(int upper) {
            int found = 0;
            for (int slot = 0; slot < count; slot++) {
                if (boxes[slot].isBelow(boxes[upper])) {
                    found++;
                }
            }
            return found;
        }

        /** How many boxes a box stands on. */
        int supportsOf(int upper) {
            Box standing = boxes[upper];
            int found = 0;
            for (int slot = 0; slot < count; slot++) {
                if (boxes[slot].isBelow(standing) && boxes[slot].high[Z] == standing.low[Z]) {
                    found++;
                }
            }
            return found;
        }

        /** The cells of a box's top that are in shadow. */
        int shadowOn(int lower) {
            Box top = boxes[lower];
            int cells = 0;
            for (int y = top.low[Y]; y < top.high[Y]; y++) {
                int shaded = 0;
                for (int slot = 0; slot < count; slot++) {
                    if (top.isBelow(boxes[slot]) && boxes[slot].coversRow(y)) {
                        shaded |= boxes[slot].rowOfCells();
                    }
                }
                cells += Integer.bitCount(shaded & top.rowOfCells());
            }
            return cells;
        }

        int shadow() {
            int cells = 0;
            for (int slot = 0; slot < count; slot++) {
                cells += shadowOn(slot);
            }
            return cells;
        }
    }

    /** What is seen of a space: who hides whom, what is drawn, layers and rings. */
    private static final class Picture {
        private int count;
        /** The boxes that the box at a slot hides, as bits: bit s for the slot s. */
        private final int[] hides = new int[MOST_BOXES];
        /** The boxes to which a chain of one or more hidings leads, as bits. */
        private final int[] chains = new int[MOST_BOXES];
        private final int[] order = new int[MOST_BOXES];
        private int drawnBits;
        int drawnCount;
        final int[] layers = new int[MOST_BOXES];

        void look(Space space) {
            count = space.count;
            for (int slot = 0; slot < count; slot++) {
                hides[slot] = bitsHiddenBy(space, slot);
            }
            followChains();
            draw(space);
        }

        private static int bitsHiddenBy(Space space, int hider) {
            int bits = 0;
            for (int slot = 0; slot < space.count; slot++) {
                if (slot != hider
                        && space.boxes[hider].directionOfHiding(space.boxes[slot]) != NO_DIRECTION) {
                    bits |= 1 << slot;
                }
            }
            return bits;
        }

        private static boolean hasBit(int bits, int slot) {
            return (bits >> slot & 1) != 0;
        }

        private void followChains() {
            System.arraycopy(hides, 0, chains, 0, MOST_BOXES);
            // By way of each box in its turn, so that chains of any length are found.
            for (int way = 0; way < count; way++) {
                for (int slot = 0; slot < count; slot++) {
                    if (hasBit(chains[slot], way)) {
                        chains[slot] |= chains[way];
                    }
                }
            }
        }

        private void draw(Space space) {
            Arrays.fill(layers, NONE);
            drawnBits = 0;
            drawnCount = 0;
            for (int place = 0; place < count; place++) {
                int next = nextToDraw(space);
                if (next == NO_SLOT) {
                    return;
                }
                order[place] = next;
                layers[next] = layerAbove(hides[next]);
                drawnBits |= 1 << next;
                drawnCount++;
            }
        }

        private int nextToDraw(Space space) {
            int best = NO_SLOT;
            for (int slot = 0; slot < count; slot++) {
                boolean canBeDrawn = !hasBit(drawnBits, slot) && (hides[slot] & ~drawnBits) == 0;
                if (canBeDrawn && (best == NO_SLOT
                        || space.weightInDrawing(slot) < space.weightInDrawing(best))) {
                    best = slot;
                }
            }
            return best;
        }

        /** The layer of a box that hides these boxes, all of which have been drawn. */
        private int layerAbove(int hidden) {
            int layer = 0;
            for (int slot = 0; slot < count; slot++) {
                if (hasBit(hidden, slot)) {
                    layer = Math.max(layer, layers[slot] + 1);
                }
            }
            return layer;
        }

        int hiddenBy(int slot) {
            return Integer.bitCount(hides[slot]);
        }

        int hidersOf(int hidden) {
            int found = 0;
            for (int slot = 0; slot < count; slot++) {
                if (hasBit(hides[slot], hidden)) {
                    found++;
                }
            }
            return found;
        }

        int hidings() {
            int found = 0;
            for (int slot = 0; slot < count; slot++) {
                found += hiddenBy(slot);
            }
            return found;
        }

        /** How many hidings here are no hidings in a picture of the same boxes. */
        int hidingsNotIn(Picture other) {
            int found = 0;
            for (int slot = 0; slot < count; slot++) {
                found += Integer.bitCount(hides[slot] & ~other.hides[slot]);
            }
            return found;
        }

        /** The slot of the box that is drawn after so many others, NO_SLOT if none is. */
        int slotDrawn(int place) {
            return place >= 0 && place < drawnCount ? order[place] : NO_SLOT;
        }

        int greatestLayer() {
            int greatest = NONE;
            for (int slot = 0; slot < count; slot++) {
                greatest = Math.max(greatest, layers[slot]);
            }
            return greatest;
        }

        int firstNotDrawnUnder(int hider) {
            for (int slot = 0; slot < count; slot++) {
                if (hasBit(hides[hider], slot) && !hasBit(drawnBits, slot)) {
                    return slot;
                }
            }
            return NO_SLOT;
        }

        private boolean isInRing(int slot) {
            return hasBit(chains[slot], slot);
        }

        int boxesInRings() {
            int found = 0;
            for (int slot = 0; slot < count; slot++) {
                if (isInRing(slot)) {
                    found++;
                }
            }
            return found;
        }

        int shortestRing() {
            int shortest = NONE;
            for (int slot = 0; slot < count; slot++) {
                int ring = shortestRingOf(slot);
                if (ring != NONE && (shortest == NONE || ring < shortest)) {
                    shortest = ring;
                }
            }
            return shortest;
        }

        int shortestRingOf(int slot) {
            int reached = hides[slot];
            for (int length = 1; length <= count; length++) {
                if (hasBit(reached, slot)) {
                    return length;
                }
                reached |= bitsHiddenByAll(reached);
            }
            return NONE;
        }

        private int bitsHiddenByAll(int hiders) {
            int bits = 0;
            for (int slot = 0; slot < count; slot++) {
                if (hasBit(hiders, slot)) {
                    bits |= hides[slot];
                }
            }
            return bits;
        }

        /** The slot of the box that is split to break a ring, NO_SLOT if there is no ring. */
        int greatestInRings(Space space) {
            int greatest = NO_SLOT;
            for (int slot = 0; slot < count; slot++) {
                if (isInRing(slot) && (greatest == NO_SLOT
                        || space.boxes[slot].volume() > space.boxes[greatest].volume())) {
                    greatest = slot;
                }
            }
            return greatest;
        }
    }

    /** The states before the latest changes, the oldest one first. */
    private static final class History {
        private final Space[] states = new Space[MOST_STATES];
        int count;

        History() {
            for (int i = 0; i < MOST_STATES; i++) {
                states[i] = new Space();
            }
        }

        void remember(Space space) {
            if (count >= MOST_STATES) {
                dropOldest();
            }
            states[count].copyFrom(space);
            count++;
        }

        private void dropOldest() {
            // The oldest state's object goes to the end, where it is written anew.
            Space oldest = states[0];
            for (int i = 0; i + 1 < MOST_STATES; i++) {
                states[i] = states[i + 1];
            }
            states[MOST_STATES - 1] = oldest;
            count = MOST_STATES - 1;
        }

        /** Puts the latest state into a space, and removes it from here. */
        void recall(Space space) {
            if (count > 0) {
                count--;
                space.copyFrom(states[count]);
            }
        }
    }

    /** The text, and the numbers that are read from it. */
    private static final class Text {
        private final char[] signs = new char[MOST_SIGNS];
        int length;
        /** Every number takes a digit and, but for the last one, a sign behind it. */
        private final int[] values = new int[MOST_SIGNS / 2 + 1];
        private int valueCount;

        boolean append(char sign) {
            if (length >= MOST_SIGNS) {
                return false;
            }
            signs[length] = sign;
            length++;
            return true;
        }

        /** Reads the boxes; answers the fault of the text, or NO_FAULT. */
        int read() {
            valueCount = 0;
            int place = 0;
            int value = NO_DIGIT;
            for (int at = 0; at < length; at++) {
                char sign = signs[at];
                if (sign >= '0' && sign <= '9') {
                    value = withDigit(value, sign - '0', place);
                    if (value == NOT_ALLOWED) {
                        return at;
                    }
                } else if (value != NO_DIGIT && sign == signBehind(place)) {
                    store(value);
                    value = NO_DIGIT;
                    place = place + 1 < NUMBERS_OF_A_BOX ? place + 1 : 0;
                } else {
                    return at;
                }
            }
            if (value == NO_DIGIT || place + 1 < NUMBERS_OF_A_BOX) {
                return length;
            }
            store(value);
            return NO_FAULT;
        }

        /** A number with a digit behind it, or NOT_ALLOWED; place tells which of a box it is. */
        private static int withDigit(int value, int digit, int place) {
            boolean isSize = place >= DIRECTIONS;
            if (value == NO_DIGIT) {
                return isSize && digit == 0 ? NOT_ALLOWED : digit;
            }
            int longer = value * 10 + digit;
            boolean isTooGreat = longer > (isSize ? GREATEST_SIZE : GREATEST_CORNER);
            return value == 0 || isTooGreat ? NOT_ALLOWED : longer;
        }

        private static char signBehind(int place) {
            if (place == DIRECTIONS - 1) {
                return ':';
            }
            return place == NUMBERS_OF_A_BOX - 1 ? ';' : ',';
        }

        private void store(int value) {
            if (valueCount < values.length) {
                values[valueCount] = value;
                valueCount++;
            }
        }

        int boxCount() {
            return valueCount / NUMBERS_OF_A_BOX;
        }

        /** A number of a box of the text that has been read. */
        int valueOf(int box, int place) {
            int at = box * NUMBERS_OF_A_BOX + place;
            return at >= 0 && at < valueCount ? values[at] : 0;
        }
    }
}
