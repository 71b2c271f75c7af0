import java.util.Arrays;

/** A board on which marbles run down: tracks, toggles, latches, gates, splitters, lifts and outlets. */
public final class MarbleBoard {
    public static final int LOOP = -1, MANY = -1, NONE = -1;

    private static final int SIDE = 16;
    private static final int AREA = 256;
    private static final int INLETS = 4;
    private static final int OUTLETS = 4;
    private static final int TABLE_ROWS = 8;
    private static final int STATE_BITS = 28;
    private static final int MOST_MOVES = 300;
    private static final int MOST_MARBLES = 6;
    private static final int MOST_TICKS = 64;
    private static final int MOST_FOUND = 400;

    private static final String CHARACTERS = "./\\|XabcdABCD<>[]0123s";
    private static final char NOTHING = '.';
    private static final char TOGGLE = '<';
    private static final char LATCH = '[';
    private static final char GATE = '0';
    private static final char SPLITTER = 's';

    /** What Track.next answers instead of a cell: the marble stays, or it is gone through outlet OUT - answer. */
    private static final int STUCK = -1;
    private static final int OUT = -2;

    private final Cells cells = new Cells();
    private final Track track = new Track(cells);
    private final Survey survey = new Survey(cells);
    private final State state = new State(cells);
    private final int[] counts = new int[OUTLETS];
    private final Crowd crowd = new Crowd(track, counts);
    private final Past past = new Past();
    private final Search search = new Search(cells, track, state);
    private final int[] told = new int[TABLE_ROWS];
    private boolean frozen;
    /** How many inputs the table has that was laid out; 0 when the board is no table. */
    private int inputs;

    public MarbleBoard() {
    }

    public void board(int w, int h) throws IllegalArgumentException {
        if (!isWithin(w, 1, SIDE) || !isWithin(h, 1, SIDE)) {
            throw new IllegalArgumentException();
        }
        startBuilding();
        cells.clear(w, h);
    }

    public void row(int y, long a, long b) throws IllegalArgumentException {
        if (!cells.has(0, y) || !tellsCells(a, b)) {
            throw new IllegalArgumentException();
        }
        startBuilding();
        for (int x = 0; x < cells.width(); x++) {
            cells.put(x, y, byteOf(a, b, x));
        }
    }

    public void cell(int x, int y, char c) throws IllegalArgumentException {
        if (!cells.has(x, y) || !tellsCell(c)) {
            throw new IllegalArgumentException();
        }
        startBuilding();
        cells.put(x, y, c);
    }

    public void pattern(int x, int y, int length, int bits) throws IllegalArgumentException {
        if (!cells.has(x, y) || cells.kindAt(spotOf(x, y)) != SPLITTER || !isWithin(length, 1, 8)) {
            throw new IllegalArgumentException();
        }
        startBuilding();
        cells.setPattern(spotOf(x, y), length, bits);
    }

    public void inlet(int k, int x) throws IllegalArgumentException {
        if (!isWithin(k, 0, INLETS - 1) || x != NONE && !cells.has(x, 0)) {
            throw new IllegalArgumentException();
        }
        startBuilding();
        cells.setInlet(k, x);
    }

    public int freeze() throws IllegalStateException {
        if (!cells.hasAnyInlet()) {
            throw new IllegalStateException();
        }
        freezeIfSound();
        return frozen ? 1 : 0;
    }

    public int hole() {
        return survey.firstHole();
    }

    public char look(int x, int y) throws IllegalArgumentException {
        if (!cells.has(x, y)) {
            throw new IllegalArgumentException();
        }
        return cells.characterAt(spotOf(x, y));
    }

    public int value(int x, int y) throws IllegalArgumentException {
        if (!cells.has(x, y) || !cells.isMoving(spotOf(x, y))) {
            throw new IllegalArgumentException();
        }
        return cells.valueAt(spotOf(x, y));
    }

    public int turn(int x, int y, int v) throws IllegalArgumentException {
        if (!cells.has(x, y) || v < 0 || v > cells.greatestValue(spotOf(x, y))) {
            throw new IllegalArgumentException();
        }
        int before = cells.valueAt(spotOf(x, y));
        cells.setValue(spotOf(x, y), v);
        return before;
    }

    public int drop(int k) throws IllegalStateException, IllegalArgumentException {
        if (!frozen || crowd.size() > 0) {
            throw new IllegalStateException();
        }
        if (!cells.hasInlet(k)) {
            throw new IllegalArgumentException();
        }
        int before = state.packed();
        int outlet = track.run(k);
        if (outlet == LOOP) {
            state.restore(before);
        } else {
            past.keep(before, outlet);
            counts[outlet]++;
        }
        return outlet;
    }

    public boolean undo() throws IllegalStateException {
        if (!frozen || crowd.size() > 0) {
            throw new IllegalStateException();
        }
        if (past.isEmpty()) {
            return false;
        }
        past.stepBack();
        state.restore(past.stateThere());
        counts[past.outletThere()]--;
        return true;
    }

    public int count(int o) throws IllegalArgumentException {
        if (!isWithin(o, 0, OUTLETS - 1)) {
            throw new IllegalArgumentException();
        }
        return counts[o];
    }

    public boolean roll(int k) throws IllegalStateException, IllegalArgumentException {
        if (!frozen) {
            throw new IllegalStateException();
        }
        if (!cells.hasInlet(k)) {
            throw new IllegalArgumentException();
        }
        return crowd.admit(cells.below(k));
    }

    public int tick(int n) throws IllegalStateException, IllegalArgumentException {
        if (!frozen) {
            throw new IllegalStateException();
        }
        if (!isWithin(n, 0, MOST_TICKS)) {
            throw new IllegalArgumentException();
        }
        int gone = 0;
        for (int i = 0; i < n; i++) {
            gone += crowd.moveAll();
        }
        return gone;
    }

    public int marbles(int what) throws IllegalArgumentException {
        if (what < 0 || what - 2 >= crowd.size()) {
            throw new IllegalArgumentException();
        }
        if (what == 0) {
            return crowd.size();
        }
        return what == 1 ? crowd.held() : cells.placeOf(crowd.marble(what - 2) >> 2);
    }

    public int explore(int limit) throws IllegalStateException, IllegalArgumentException {
        if (!frozen) {
            throw new IllegalStateException();
        }
        if (!isWithin(limit, 1, MOST_FOUND)) {
            throw new IllegalArgumentException();
        }
        return search.countStates(limit);
    }

    public int canReach(int k, int o) throws IllegalStateException, IllegalArgumentException {
        if (!frozen) {
            throw new IllegalStateException();
        }
        if (!cells.hasInlet(k) || !isWithin(o, 0, OUTLETS - 1)) {
            throw new IllegalArgumentException();
        }
        if (search.countStates(MOST_FOUND) == MANY) {
            return MANY;
        }
        return search.wasSent(k, o) ? 1 : 0;
    }

    public int jam(int many) throws IllegalStateException, IllegalArgumentException {
        if (!frozen || crowd.size() > 0) {
            throw new IllegalStateException();
        }
        if (!isWithin(many, 1, 3)) {
            throw new IllegalArgumentException();
        }
        return search.findJam(many);
    }

    public void counter(int bits) throws IllegalArgumentException {
        if (!isWithin(bits, 1, 8)) {
            throw new IllegalArgumentException();
        }
        startBuilding();
        Layout.layCounter(cells, bits);
        freezeIfSound();
    }

    public void tell(int r, int v) throws IllegalArgumentException {
        if (!isWithin(r, 0, TABLE_ROWS - 1) || !isWithin(v, 0, OUTLETS - 1)) {
            throw new IllegalArgumentException();
        }
        told[r] = v;
    }

    public void table(int inputs) throws IllegalArgumentException {
        if (!isWithin(inputs, 1, 3)) {
            throw new IllegalArgumentException();
        }
        startBuilding();
        Layout.layTable(cells, inputs, told);
        freezeIfSound();
        this.inputs = inputs;
    }

    public void input(int i, int v) throws IllegalStateException, IllegalArgumentException {
        if (!frozen || inputs == 0) {
            throw new IllegalStateException();
        }
        if (!isWithin(i, 0, inputs - 1) || !isWithin(v, 0, 1)) {
            throw new IllegalArgumentException();
        }
        Layout.leanInput(cells, inputs, i, v);
    }

    private void startBuilding() {
        frozen = false;
        inputs = 0;
        crowd.clear();
    }

    private void freezeIfSound() {
        crowd.clear();
        frozen = survey.firstHole() == NONE && state.gather();
        if (frozen) {
            Arrays.fill(counts, 0);
            past.clear();
        }
    }

    /** Asked for the whole row before anything is built, as a call that throws changes nothing. */
    private boolean tellsCells(long a, long b) {
        for (int x = 0; x < cells.width(); x++) {
            if (!tellsCell(byteOf(a, b, x))) {
                return false;
            }
        }
        return true;
    }

    private static boolean tellsCell(char c) {
        return CHARACTERS.indexOf(c) >= 0;
    }

    private static char byteOf(long a, long b, int x) {
        long half = x < 8 ? a : b;
        return (char) (half >>> 8 * (x & 7) & 255);
    }

    private static boolean isWithin(int n, int least, int most) {
        return n >= least && n <= most;
    }

    /** Rows are 16 apart in all arrays of cells, however wide the board is, so that no spot needs a division. */
    private static int spotOf(int x, int y) {
        return SIDE * y + x;
    }

    /** A marble is one number: the spot of its cell, and behind it how it came (-1 going left, 0, 1 going right) plus 1. */
    private static int marbleAt(int spot, int came) {
        return spot << 2 | came + 1;
    }

    /** The cells with what they hold, and the inlets. */
    private static final class Cells {
        private final char[] kinds = new char[AREA];
        private final int[] values = new int[AREA];
        private final int[] lengths = new int[AREA];
        private final int[] patterns = new int[AREA];
        private final int[] columns = new int[INLETS];
        private int width;
        private int height;

        Cells() {
            clear(1, 1);
        }

        void clear(int w, int h) {
            width = w;
            height = h;
            for (int y = 0; y < SIDE; y++) {
                for (int x = 0; x < SIDE; x++) {
                    put(x, y, NOTHING);
                }
            }
            Arrays.fill(columns, NONE);
        }

        int width() {
            return width;
        }

        int height() {
            return height;
        }

        boolean has(int x, int y) {
            return x >= 0 && x < width && y >= 0 && y < height;
        }

        int placeOf(int spot) {
            return width * (spot / SIDE) + spot % SIDE;
        }

        void put(int x, int y, char c) {
            int spot = spotOf(x, y);
            kinds[spot] = kindOf(c);
            values[spot] = firstValue(c);
            lengths[spot] = 2;
            patterns[spot] = 0b10;
        }

        private static char kindOf(char c) {
            switch (c) {
                case '>':
                    return TOGGLE;
                case ']':
                    return LATCH;
                case '1':
                case '2':
                case '3':
                    return GATE;
                default:
                    return c;
            }
        }

        private static int firstValue(char c) {
            if (c >= '0' && c <= '3') {
                return c - '0';
            }
            return c == '>' || c == ']' ? 1 : 0;
        }

        char characterAt(int spot) {
            switch (kinds[spot]) {
                case TOGGLE:
                    return values[spot] == 0 ? '<' : '>';
                case LATCH:
                    return values[spot] == 0 ? '[' : ']';
                case GATE:
                    return (char) ('0' + values[spot]);
                default:
                    return kinds[spot];
            }
        }

        char kindAt(int spot) {
            return kinds[spot];
        }

        int valueAt(int spot) {
            return values[spot];
        }

        void setValue(int spot, int v) {
            values[spot] = v;
        }

        boolean isMoving(int spot) {
            return greatestValue(spot) >= 0;
        }

        /** Below 0 for a cell that is not moving, which so can have no value at all. */
        int greatestValue(int spot) {
            switch (kinds[spot]) {
                case TOGGLE:
                case LATCH:
                    return 1;
                case GATE:
                    return 3;
                case SPLITTER:
                    return lengths[spot] - 1;
                default:
                    return -1;
            }
        }

        void setPattern(int spot, int length, int bits) {
            lengths[spot] = length;
            patterns[spot] = bits & (1 << length) - 1;
            values[spot] = 0;
        }

        boolean patternHas(int spot, int bit) {
            int ones = patterns[spot];
            return bit == 1 ? ones != 0 : ones != (1 << lengths[spot]) - 1;
        }

        int bitAtPosition(int spot) {
            return patterns[spot] >> values[spot] & 1;
        }

        void setInlet(int k, int x) {
            columns[k] = x;
        }

        boolean hasInlet(int k) {
            return k >= 0 && k < INLETS && columns[k] != NONE;
        }

        boolean hasAnyInlet() {
            for (int k = 0; k < INLETS; k++) {
                if (hasInlet(k)) {
                    return true;
                }
            }
            return false;
        }

        /** A marble that has just come from inlet k. */
        int below(int k) {
            return hasInlet(k) ? marbleAt(spotOf(columns[k], 0), 0) : STUCK;
        }
    }

    /** How a marble goes from cell to cell, and what that changes. */
    private static final class Track {
        private final Cells cells;

        Track(Cells cells) {
            this.cells = cells;
        }

        /** The outlet, or LOOP; a LOOP leaves the values as they came to be, for the caller to put back. */
        int run(int k) {
            int marble = cells.below(k);
            for (int moves = 0; moves < MOST_MOVES && marble >= 0; moves++) {
                int target = next(marble);
                if (target <= OUT) {
                    return OUT - target;
                }
                if (target != STUCK) {
                    pass(marble);
                }
                marble = target;
            }
            return LOOP;
        }

        /** Where the marble would be after moving on, STUCK, or OUT less the outlet; changes nothing, as it may be held. */
        int next(int marble) {
            int spot = marble >> 2;
            int came = (marble & 3) - 1;
            char kind = cells.kindAt(spot);
            if (kind >= 'a' && kind <= 'd') {
                return OUT - (kind - 'a');
            }
            if (kind >= 'A' && kind <= 'D') {
                return cells.below(kind - 'A');
            }
            boolean shut = kind == GATE && came == 0 && cells.valueAt(spot) == 0;
            return shut || kind == NOTHING ? STUCK : rowBelow(spot, side(spot, came));
        }

        private int side(int spot, int came) {
            switch (cells.kindAt(spot)) {
                case '/':
                    return -1;
                case '\\':
                    return 1;
                case '|':
                    return 0;
                case TOGGLE:
                    return sideOf(cells.valueAt(spot));
                case LATCH:
                    return came == 0 ? sideOf(cells.valueAt(spot)) : 0;
                case SPLITTER:
                    return sideOf(cells.bitAtPosition(spot));
                default:
                    return came;
            }
        }

        private static int sideOf(int bit) {
            return bit == 0 ? -1 : 1;
        }

        private int rowBelow(int spot, int side) {
            int x = spot % SIDE + side;
            int y = spot / SIDE + 1;
            return cells.has(x, y) ? marbleAt(spotOf(x, y), side) : STUCK;
        }

        /** What the marble changes in its cell by moving on. */
        void pass(int marble) {
            int spot = marble >> 2;
            int came = (marble & 3) - 1;
            int v = cells.valueAt(spot);
            switch (cells.kindAt(spot)) {
                case TOGGLE:
                    cells.setValue(spot, 1 - v);
                    break;
                case LATCH:
                    cells.setValue(spot, came == 0 ? v : came < 0 ? 0 : 1);
                    break;
                case GATE:
                    cells.setValue(spot, came == 0 ? v - 1 : Math.min(3, v + 1));
                    break;
                case SPLITTER:
                    cells.setValue(spot, v == cells.greatestValue(spot) ? 0 : v + 1);
                    break;
                default:
                    break;
            }
        }
    }

    /** Finds holes. A set of ways is three bits: 1 going left, 2 straight, 4 going right. */
    private static final class Survey {
        private static final int LEFT = 1;
        private static final int STRAIGHT = 2;
        private static final int RIGHT = 4;

        private final Cells cells;
        /** In which ways a marble can come to each cell; 0 when it is not reached. */
        private final int[] reached = new int[AREA];

        Survey(Cells cells) {
            this.cells = cells;
        }

        /** One sweep is enough: marbles go down, and lifts only to inlets from which marbles come anyway. */
        int firstHole() {
            Arrays.fill(reached, 0);
            for (int k = 0; k < INLETS; k++) {
                if (cells.hasInlet(k)) {
                    reached[cells.below(k) >> 2] = STRAIGHT;
                }
            }
            for (int y = 0; y < cells.height(); y++) {
                for (int x = 0; x < cells.width(); x++) {
                    if (reached[spotOf(x, y)] != 0 && !leadsOn(x, y)) {
                        return cells.placeOf(spotOf(x, y));
                    }
                }
            }
            return NONE;
        }

        /** Marks what is reached from a reached cell; false when it is a hole. */
        private boolean leadsOn(int x, int y) {
            char kind = cells.kindAt(spotOf(x, y));
            if (kind == NOTHING || kind >= 'A' && kind <= 'D' && !cells.hasInlet(kind - 'A')) {
                return false;
            }
            int out = waysOut(spotOf(x, y));
            for (int side = -1; side <= 1; side++) {
                int way = 1 << side + 1;
                if ((out & way) != 0) {
                    if (!cells.has(x + side, y + 1)) {
                        return false;
                    }
                    reached[spotOf(x + side, y + 1)] |= way;
                }
            }
            return true;
        }

        private int waysOut(int spot) {
            int in = reached[spot];
            switch (cells.kindAt(spot)) {
                case '/':
                    return LEFT;
                case '\\':
                    return RIGHT;
                case '|':
                    return STRAIGHT;
                case 'X':
                case GATE:
                    return in;
                case TOGGLE:
                    return LEFT | RIGHT;
                case LATCH:
                    return ((in & STRAIGHT) != 0 ? LEFT | RIGHT : 0) | ((in & (LEFT | RIGHT)) != 0 ? STRAIGHT : 0);
                case SPLITTER:
                    return (cells.patternHas(spot, 0) ? LEFT : 0) | (cells.patternHas(spot, 1) ? RIGHT : 0);
                default:
                    return 0;
            }
        }
    }

    /** The values of all moving cells as one number, as the board can be frozen only if they need few bits. */
    private static final class State {
        private final Cells cells;
        private final int[] moving = new int[STATE_BITS];
        private int size;

        State(Cells cells) {
            this.cells = cells;
        }

        /** Finds the moving cells; false when they need too many bits. */
        boolean gather() {
            int bits = 0;
            size = 0;
            for (int spot = 0; spot < AREA; spot++) {
                if (cells.isMoving(spot)) {
                    bits += bitsOf(spot);
                    if (bits > STATE_BITS) {
                        return false;
                    }
                    moving[size] = spot;
                    size++;
                }
            }
            return true;
        }

        private int bitsOf(int spot) {
            switch (cells.kindAt(spot)) {
                case SPLITTER:
                    return 3;
                case GATE:
                    return 2;
                default:
                    return 1;
            }
        }

        int packed() {
            int packed = 0;
            int shift = 0;
            for (int i = 0; i < size; i++) {
                packed |= cells.valueAt(moving[i]) << shift;
                shift += bitsOf(moving[i]);
            }
            return packed;
        }

        void restore(int packed) {
            int rest = packed;
            for (int i = 0; i < size; i++) {
                int bits = bitsOf(moving[i]);
                cells.setValue(moving[i], rest & (1 << bits) - 1);
                rest >>= bits;
            }
        }
    }

    /** Marbles at once, in the order in which they came. */
    private static final class Crowd {
        private final Track track;
        private final int[] counts;
        private final int[] marbles = new int[MOST_MARBLES];
        private int size;
        private int held;

        Crowd(Track track, int[] counts) {
            this.track = track;
            this.counts = counts;
        }

        void clear() {
            size = 0;
            held = 0;
        }

        int size() {
            return size;
        }

        int held() {
            return held;
        }

        int marble(int i) {
            return marbles[i];
        }

        boolean admit(int marble) {
            if (size == MOST_MARBLES || isTaken(marble >> 2, NONE)) {
                return false;
            }
            add(marble);
            return true;
        }

        void add(int marble) {
            marbles[size] = marble;
            size++;
        }

        /** One tick; how many marbles were gone by it. */
        int moveAll() {
            held = 0;
            for (int i = 0; i < size; i++) {
                int target = track.next(marbles[i]);
                if (target == STUCK || target >= 0 && isTaken(target >> 2, i)) {
                    held++;
                } else {
                    track.pass(marbles[i]);
                    marbles[i] = target;
                }
            }
            return takeOffGone();
        }

        /** Marbles that are gone in this tick are below 0, so they take no spot. */
        private boolean isTaken(int spot, int except) {
            for (int i = 0; i < size; i++) {
                if (i != except && marbles[i] >> 2 == spot) {
                    return true;
                }
            }
            return false;
        }

        private int takeOffGone() {
            int left = 0;
            for (int i = 0; i < size; i++) {
                if (marbles[i] <= OUT) {
                    counts[OUT - marbles[i]]++;
                } else {
                    marbles[left] = marbles[i];
                    left++;
                }
            }
            int gone = size - left;
            size = left;
            return gone;
        }
    }

    /** The drops that can be undone, in a ring, so that the oldest makes room for the newest. */
    private static final class Past {
        private static final int MOST = 32;

        private final int[] states = new int[MOST];
        private final int[] outlets = new int[MOST];
        private int end;
        private int size;

        void clear() {
            size = 0;
        }

        boolean isEmpty() {
            return size == 0;
        }

        void keep(int before, int outlet) {
            states[end] = before;
            outlets[end] = outlet;
            end = end + 1 & MOST - 1;
            size = Math.min(MOST, size + 1);
        }

        void stepBack() {
            end = end - 1 & MOST - 1;
            size--;
        }

        int stateThere() {
            return states[end];
        }

        int outletThere() {
            return outlets[end];
        }
    }

    /** A set of numbers in the order in which they were found, with room for one more than any search may find. */
    private static final class Found {
        private static final int SLOTS = 1024;
        private static final int SLOT_BITS = 10;

        private final long[] items = new long[MOST_FOUND + 1];
        /** For each slot the index of its item plus 1; 0 when it is free. */
        private final int[] slots = new int[SLOTS];
        private int size;

        void startWith(long first) {
            Arrays.fill(slots, 0);
            size = 0;
            add(first);
        }

        int size() {
            return size;
        }

        long get(int i) {
            return items[i];
        }

        void add(long item) {
            int slot = (int) (item * 0x9E3779B97F4A7C15L >>> 64 - SLOT_BITS);
            for (int tries = 0; tries < SLOTS; tries++) {
                if (slots[slot] == 0) {
                    append(item, slot);
                    return;
                }
                if (items[slots[slot] - 1] == item) {
                    return;
                }
                slot = slot + 1 & SLOTS - 1;
            }
        }

        private void append(long item, int slot) {
            if (size < items.length) {
                items[size] = item;
                size++;
                slots[slot] = size;
            }
        }
    }

    /** Goes through all that can come, on the board's own cells, and puts their values back. */
    private static final class Search {
        /** A situation is one number: the state, three marbles, how many there are, and how many may still come. */
        private static final int MARBLE_BITS = 10;
        private static final int SIZE_SHIFT = STATE_BITS + 3 * MARBLE_BITS;
        private static final int REST_SHIFT = SIZE_SHIFT + 2;

        private final Cells cells;
        private final Track track;
        private final State state;
        private final Crowd crowd;
        private final Found found = new Found();
        /** For each inlet the outlets to which the latest search sent marbles, as bits. */
        private final int[] sent = new int[INLETS];

        Search(Cells cells, Track track, State state) {
            this.cells = cells;
            this.track = track;
            this.state = state;
            // Counts of its own: a search changes none of the board's.
            this.crowd = new Crowd(track, new int[OUTLETS]);
        }

        int countStates(int limit) {
            int before = state.packed();
            Arrays.fill(sent, 0);
            found.startWith(before);
            for (int i = 0; i < found.size() && found.size() <= limit; i++) {
                runFromAll((int) found.get(i));
            }
            state.restore(before);
            return found.size() > limit ? MANY : found.size();
        }

        private void runFromAll(int from) {
            for (int k = 0; k < INLETS; k++) {
                if (cells.hasInlet(k)) {
                    state.restore(from);
                    int outlet = track.run(k);
                    if (outlet != LOOP) {
                        sent[k] |= 1 << outlet;
                        found.add(state.packed());
                    }
                }
            }
        }

        boolean wasSent(int k, int o) {
            return (sent[k] >> o & 1) == 1;
        }

        /** Goes on when it has found a jam, as too many situations outweigh it. */
        int findJam(int many) {
            int before = state.packed();
            boolean jammed = false;
            crowd.clear();
            found.startWith(situation(many));
            for (int i = 0; i < found.size() && found.size() <= MOST_FOUND; i++) {
                jammed |= tickJams(found.get(i));
                letAllCome(found.get(i));
            }
            state.restore(before);
            if (found.size() > MOST_FOUND) {
                return MANY;
            }
            return jammed ? 1 : 0;
        }

        private boolean tickJams(long from) {
            int rest = setUp(from);
            int size = crowd.size();
            crowd.moveAll();
            found.add(situation(rest));
            return size > 0 && crowd.held() == size;
        }

        private void letAllCome(long from) {
            for (int k = 0; k < INLETS; k++) {
                int rest = setUp(from);
                if (rest > 0 && cells.hasInlet(k) && crowd.admit(cells.below(k))) {
                    found.add(situation(rest - 1));
                }
            }
        }

        private long situation(int rest) {
            long packed = state.packed() | (long) crowd.size() << SIZE_SHIFT | (long) rest << REST_SHIFT;
            for (int i = 0; i < crowd.size(); i++) {
                packed |= (long) crowd.marble(i) << STATE_BITS + i * MARBLE_BITS;
            }
            return packed;
        }

        /** Sets cells and crowd as a situation has them; how many may still come. */
        private int setUp(long situation) {
            state.restore((int) situation & (1 << STATE_BITS) - 1);
            crowd.clear();
            int size = (int) (situation >> SIZE_SHIFT) & 3;
            for (int i = 0; i < size; i++) {
                crowd.add((int) (situation >> STATE_BITS + i * MARBLE_BITS) & (1 << MARBLE_BITS) - 1);
            }
            return (int) (situation >> REST_SHIFT) & 3;
        }
    }

    /** The boards that are laid out whole. */
    private static final class Layout {
        static void layCounter(Cells cells, int bits) {
            cells.clear(bits + 2, bits + 2);
            cells.setInlet(0, 1);
            for (int i = 0; i < bits; i++) {
                cells.put(i + 1, i, TOGGLE);
                for (int y = i + 1; y <= bits; y++) {
                    cells.put(i, y, '|');
                }
                cells.put(i, bits + 1, 'a');
            }
            cells.put(bits + 1, bits, '|');
            cells.put(bits + 1, bits + 1, 'b');
        }

        static void layTable(Cells cells, int inputs, int[] told) {
            int rows = 1 << inputs;
            int height = rows + inputs - 1;
            cells.clear(2 * rows - 1, height);
            cells.setInlet(0, rows - 1);
            for (int i = 0; i < inputs; i++) {
                int reach = reachOf(inputs, i);
                for (int x = 2 * reach - 1; x < 2 * rows - 1; x += 4 * reach) {
                    layLatch(cells, x, latchRow(inputs, i), reach);
                }
            }
            for (int r = 0; r < rows; r++) {
                cells.put(2 * r, height - 1, (char) ('a' + told[r]));
            }
        }

        /** A latch and its two arms; at the ends of the last ones outlets are put afterwards. */
        private static void layLatch(Cells cells, int x, int y, int reach) {
            cells.put(x, y, LATCH);
            for (int q = 1; q < reach; q++) {
                cells.put(x - q, y + q, '/');
                cells.put(x + q, y + q, '\\');
            }
            cells.put(x - reach, y + reach, '|');
            cells.put(x + reach, y + reach, '|');
        }

        /** How far to each side the arms of the latches of input i go. */
        private static int reachOf(int inputs, int i) {
            return 1 << inputs - 1 - i;
        }

        private static int latchRow(int inputs, int i) {
            int y = 0;
            for (int j = 0; j < i; j++) {
                y += reachOf(inputs, j) + 1;
            }
            return y;
        }

        static void leanInput(Cells cells, int inputs, int i, int v) {
            int y = latchRow(inputs, i);
            for (int x = 0; x < cells.width(); x++) {
                if (cells.kindAt(spotOf(x, y)) == LATCH) {
                    cells.setValue(spotOf(x, y), v);
                }
            }
        }
    }
}
