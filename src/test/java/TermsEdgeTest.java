/** The boundary cases of the document's "Terms", a test for each sentence, which stands above it. */
public final class TermsEdgeTest {
    public static void main(String[] args) {
        sizes();
        places();
        splitterHasOneToEightBits();
        newSplitter();
        positionBehindTheLastBit();
        leastAndGreatestValues();
        inletColumns();
        latchStaysWhenStraight();
        gateHasAtMostThree();
        gateWithNoneDoesNotLetOn();
        liftGoesToRowZeroStraight();
        reachedWhateverTheValues();
        reachedBySomeBit();
        holeHasNothing();
        holeAtTheSides();
        holeAtTheLastRow();
        holeIsALiftToNoInlet();
        buildingEndsFreezingAndTakesMarblesOff();
        runThatCannotMoveOn();
        runOfThreeHundredMoves();
        loopLeavesTheState();
        sixMarbles();
        eachInACellOfItsOwn();
        heldChangesNothing();
        noEndOfMovingAtOnce();
        Check.end();
    }

    /** "THE BOARD has a width w and a height h, 1 .. 16 each, and w * h CELLS" */
    private static void sizes() {
        for (int w = 1; w <= 16; w++) {
            MarbleBoard board = new MarbleBoard();
            for (int h = 1; h <= 16; h++) {
                int width = w;
                int height = h;
                String size = w + " by " + h;
                board.board(w, h);
                Check.same(size + ", first cell", board.look(0, 0), '.');
                Check.same(size + ", last cell", board.look(w - 1, h - 1), '.');
                Check.refusesArgument(size + ", column behind", () -> board.look(width, 0));
                Check.refusesArgument(size + ", row behind", () -> board.look(0, height));
            }
        }
    }

    /** "cell (x, y) has the PLACE w * y + x" */
    private static void places() {
        for (int w = 1; w <= 16; w++) {
            MarbleBoard board = new MarbleBoard();
            board.board(w, 16);
            board.inlet(0, w - 1);
            for (int y = 0; y < 16; y++) {
                Check.same("hole in row " + y + " of width " + w, board.hole(), w * y + w - 1);
                board.cell(w - 1, y, y == 15 ? 'a' : '|');
            }
            board.freeze();
            board.roll(0);
            for (int y = 0; y < 16; y++) {
                Check.same("marble in row " + y + " of width " + w, board.marbles(2), w * y + w - 1);
                board.tick(1);
            }
        }
    }

    private static MarbleBoard splitter(int length, int bits) {
        MarbleBoard board = Check.board(".s.", "a.b");
        board.inlet(0, 1);
        board.pattern(1, 0, length, bits);
        board.freeze();
        return board;
    }

    /** "A splitter has a PATTERN of 1 to 8 bits, numbered from 0" */
    private static void splitterHasOneToEightBits() {
        for (int length = 1; length <= 8; length++) {
            for (int one = 0; one < length; one++) {
                MarbleBoard board = splitter(length, 1 << one);
                for (int i = 0; i < length; i++) {
                    Check.same("bit " + i + " of " + length + " with bit " + one, board.drop(0), i == one ? 1 : 0);
                }
            }
        }
        Check.refusesArgument("a pattern of 0 bits", () -> splitter(0, 0));
        Check.refusesArgument("a pattern of 9 bits", () -> splitter(9, 0));
    }

    /** "a new one has the bits 0, 1 and the position 0" */
    private static void newSplitter() {
        MarbleBoard board = splitter(8, 0xFF);
        board.turn(1, 0, 7);
        board.cell(1, 0, 's');
        checkNewSplitter("by cell", board);
        board.pattern(1, 0, 1, 1);
        board.row(0, Check.bytes(".s.", 0), 0);
        checkNewSplitter("by row", board);
        board.pattern(1, 0, 3, 0b111);
        Check.lay(board, ".s.", "a.b");
        board.inlet(0, 1);
        checkNewSplitter("by board", board);
    }

    private static void checkNewSplitter(String how, MarbleBoard board) {
        Check.same("position of a new splitter " + how, board.value(1, 0), 0);
        Check.refusesArgument("third position of a new splitter " + how, () -> board.turn(1, 0, 2));
        board.freeze();
        for (int i = 0; i < 4; i++) {
            Check.same("drop " + i + " through a new splitter " + how, board.drop(0), i % 2);
        }
    }

    /** "then the position is 1 more, or 0 behind the last bit" */
    private static void positionBehindTheLastBit() {
        for (int length = 1; length <= 8; length++) {
            MarbleBoard board = splitter(length, 0b10100110);
            for (int position = 0; position < length; position++) {
                String what = "position " + position + " of " + length;
                int due = position == length - 1 ? 0 : position + 1;
                board.turn(1, 0, position);
                Check.same(what + ", drop", board.drop(0), 0b10100110 >> position & 1);
                Check.same(what + ", after a drop", board.value(1, 0), due);
                board.turn(1, 0, position);
                board.roll(0);
                board.tick(2);
                Check.same(what + ", after a tick", board.value(1, 0), due);
            }
        }
    }

    /** "The VALUE of a toggle or latch is to where it leans, 0 or 1, of a gate its openings, 0 .. 3, of a splitter its position." */
    private static void leastAndGreatestValues() {
        String cells = "<>[]0123";
        int[] values = {0, 1, 0, 1, 0, 1, 2, 3};
        MarbleBoard board = Check.board(cells);
        for (int x = 0; x < values.length; x++) {
            int least = x / 4 == 0 ? x - x % 2 : 4;
            int most = x / 4 == 0 ? least + 1 : 7;
            Check.same("value of " + cells.charAt(x), board.value(x, 0), values[x]);
            board.turn(x, 0, 0);
            Check.same("least of " + cells.charAt(x), board.look(x, 0), cells.charAt(least));
            board.turn(x, 0, most - least);
            Check.same("greatest of " + cells.charAt(x), board.look(x, 0), cells.charAt(most));
            Check.same("greatest value of " + cells.charAt(x), board.value(x, 0), most - least);
        }
    }

    /** "INLETS 0 .. 3 have a column each, or are not there." */
    private static void inletColumns() {
        MarbleBoard board = Check.board("aaaaaaaaaaaaaaab");
        for (int k = 0; k < 4; k++) {
            int inlet = k;
            board.inlet(k, 15);
            board.freeze();
            Check.same("inlet " + k + " in the last column", board.drop(k), 1);
            board.inlet(k, 0);
            board.freeze();
            Check.same("inlet " + k + " in the first column", board.drop(k), 0);
            if (k < 3) {
                Check.refusesArgument("inlet " + (k + 1) + " is not there yet", () -> board.drop(inlet + 1));
            }
        }
        Check.same("all four in one column", board.explore(1), 1);
    }

    /** "A latch: when the marble came straight, to where it leans; when it came going left or right, the latch leans there then" */
    private static void latchStaysWhenStraight() {
        for (int lean = 0; lean <= 1; lean++) {
            MarbleBoard board = Check.frozen(Check.columns(0, 1, 2), "\\|/", ".[.", "abc");
            int[] outlets = {1, 2 * lean, 1};
            int[] leans = {1, lean, 0};
            for (int k = 0; k < 3; k++) {
                board.turn(1, 1, lean);
                Check.same("inlet " + k + " through a latch leaning " + lean, board.drop(k), outlets[k]);
                Check.same("then it leans", board.value(1, 1), leans[k]);
            }
        }
    }

    /** "when it came going left or right, there is one more, but at most 3, and it goes as it came" */
    private static void gateHasAtMostThree() {
        MarbleBoard board = Check.frozen(Check.columns(0, 2), "\\./", ".0.", "a.c");
        for (int openings = 0; openings <= 3; openings++) {
            for (int k = 0; k < 2; k++) {
                String what = openings + " openings, inlet " + k;
                board.turn(1, 1, openings);
                Check.same(what, board.drop(k), k == 0 ? 2 : 0);
                Check.same(what + ", then", board.value(1, 1), openings == 3 ? 3 : openings + 1);
                board.turn(1, 1, openings);
                board.roll(k);
                Check.same(what + ", at once", board.tick(3), 1);
                Check.same(what + ", at once, then", board.value(1, 1), openings == 3 ? 3 : openings + 1);
            }
        }
    }

    /** "when the marble came straight, and there are openings, straight, and there is one less; when there are none, it does not move on" */
    private static void gateWithNoneDoesNotLetOn() {
        MarbleBoard board = Check.frozen(Check.columns(0), "3", "a");
        for (int openings = 3; openings >= 1; openings--) {
            Check.same("a gate with " + openings, board.drop(0), 0);
            Check.same("one less", board.value(0, 0), openings - 1);
        }
        Check.same("a gate with none", board.drop(0), MarbleBoard.LOOP);
        Check.same("still none", board.value(0, 0), 0);
        board.roll(0);
        Check.same("at once", board.tick(64), 0);
        Check.same("it is there still", board.marbles(2), 0);
        Check.same("it is held", board.marbles(1), 1);
        Check.same("none after ticks", board.value(0, 0), 0);
        board.turn(0, 0, 1);
        Check.same("one opening lets it on", board.tick(2), 1);
        Check.same("and is used up", board.value(0, 0), 0);
    }

    /** "From a lift it goes to the cell below the inlet, in row 0, to which it comes straight." */
    private static void liftGoesToRowZeroStraight() {
        for (char lift = 'A'; lift <= 'D'; lift++) {
            int k = lift - 'A';
            MarbleBoard board = Check.board("\\..X", "." + lift + ".d", "..a.");
            board.inlet(k, 3);
            board.inlet(k == 0 ? 1 : 0, 0);
            Check.same("no hole at lift " + lift, board.freeze(), 1);
            Check.same("from lift " + lift + " straight through X", board.drop(k == 0 ? 1 : 0), 3);
            board.roll(k == 0 ? 1 : 0);
            board.tick(2);
            Check.same("lift " + lift + " at once", board.marbles(2), 3);
            board.tick(1);
            Check.same("lift " + lift + " at once, straight", board.marbles(2), 7);
        }
        Check.same("a lift in row 0 to another", Check.frozen(Check.columns(0, 1), "Bc").drop(0), 2);
        Check.same("a lift to its own cell", Check.frozen(Check.columns(0), "A").drop(0), MarbleBoard.LOOP);
    }

    private static void checkHole(String what, int due, int inlet, String... rows) {
        MarbleBoard board = Check.board(rows);
        board.inlet(0, inlet);
        Check.same(what, board.hole(), due);
        Check.same(what + ", freeze", board.freeze(), due == MarbleBoard.NONE ? 1 : 0);
    }

    /** "A cell is REACHED if a marble can come to it, whatever the values of moving cells are" */
    private static void reachedWhateverTheValues() {
        for (String cell : new String[] {"<", ">", "[", "]"}) {
            checkHole(cell + " to the left", 3, 1, "." + cell + ".", ".aa");
            checkHole(cell + " to the right", 5, 1, "." + cell + ".", "aa.");
            checkHole(cell + " straight", -1, 1, "." + cell + ".", "a.a");
        }
        for (String gate : new String[] {"0", "1", "2", "3"}) {
            checkHole("below gate " + gate, 4, 1, "." + gate + ".", "a.a");
            checkHole("beside gate " + gate, -1, 1, "." + gate + ".", ".a.");
            checkHole("behind gate " + gate + " going left", 6, 2, "../", "." + gate + ".", ".aa");
            checkHole("below gate " + gate + " going left", -1, 2, "../", "." + gate + ".", "a..");
        }
        checkHole("below a latch going left", 7, 2, "../", ".[.", "a.a");
        checkHole("beside a latch going left", -1, 2, "../", ".].", ".a.");
    }

    /** "(of a splitter: if it goes to the left when some bit is 0, to the right when some bit is 1)" */
    private static void reachedBySomeBit() {
        for (int length = 1; length <= 8; length++) {
            int all = (1 << length) - 1;
            checkSplitterHole(length, 0, false, true);
            checkSplitterHole(length, all, true, false);
            checkSplitterHole(length, 0x100, false, true);
            checkSplitterHole(length, all | 0xFFFFFF00, true, false);
            for (int i = 0; i < length && length > 1; i++) {
                checkSplitterHole(length, 1 << i, true, true);
                checkSplitterHole(length, all ^ 1 << i, true, true);
            }
        }
    }

    private static void checkSplitterHole(int length, int bits, boolean right, boolean left) {
        String what = length + " bits of " + bits;
        MarbleBoard board = Check.board(".s.", "a..");
        board.inlet(0, 1);
        board.pattern(1, 0, length, bits);
        Check.same(what + " to the right", board.hole(), right ? 5 : -1);
        board.row(1, Check.bytes("..a", 0), 0);
        Check.same(what + " to the left", board.hole(), left ? 3 : -1);
    }

    /** "A HOLE is a cell that is reached and has nothing" */
    private static void holeHasNothing() {
        checkHole("nothing in the first cell", 0, 0, ".a", "aa");
        checkHole("nothing in the last cell", 3, 1, "a|", "a.");
        checkHole("nothing that is not reached", -1, 0, "a.", "..");
        String[] rows = new String[16];
        java.util.Arrays.fill(rows, "...............|");
        rows[15] = "aaaaaaaaaaaaaaa.";
        checkHole("nothing in the last cell of the greatest board", 255, 15, rows);
        rows[15] = "...............a";
        checkHole("an outlet there", -1, 15, rows);
    }

    /** "or from which a marble could then go beyond the sides" */
    private static void holeAtTheSides() {
        for (String cell : new String[] {"/", "<", ">", "[", "]", "s"}) {
            checkHole(cell + " at the left side", 0, 0, cell + "aa", "aaa");
            checkHole(cell + " beside the left side", -1, 1, "a" + cell + "a", "aaa");
        }
        for (String cell : new String[] {"\\", "<", ">", "[", "]", "s"}) {
            checkHole(cell + " at the right side", 2, 2, "aa" + cell, "aaa");
            checkHole(cell + " beside the right side", -1, 1, "a" + cell + "a", "aaa");
        }
        for (String cell : new String[] {"X", "0", "3"}) {
            checkHole(cell + " at the left side, going left", 2, 1, "a/", cell + "a", "aa");
            checkHole(cell + " at the right side, going right", 3, 0, "\\a", "a" + cell, "aa");
            checkHole(cell + " at the only side, straight", -1, 0, cell, "a");
        }
        checkHole("a latch at the left side, going left", -1, 1, "a/", "[a", "aa");
        checkHole("\\ at the left side", -1, 0, "\\a", "aa");
        checkHole("/ at the right side", -1, 1, "a/", "aa");
        checkHole("| in the only column", -1, 0, "|", "a");
        checkHole("/ in the only column", 0, 0, "/", "a");
        checkHole("\\ in the only column", 0, 0, "\\", "a");
        checkHole("\\ in column 15", 15, 15, "...............\\", "aaaaaaaaaaaaaaaa");
        checkHole("\\ in column 14", -1, 14, "..............\\.", "aaaaaaaaaaaaaaaa");
    }

    /** "or the last row" */
    private static void holeAtTheLastRow() {
        for (char c : "/\\|X<>[]0123s".toCharArray()) {
            checkHole(c + " in the last row", 4, 1, "a|a", "a" + c + "a");
            checkHole(c + " in the row above", -1, 1, "a|a", "a" + c + "a", "aaa");
            checkHole(c + " in the only row", 1, 1, "a" + c + "a");
        }
        for (char c : "abcdA".toCharArray()) {
            checkHole(c + " in the last row", -1, 1, "a|a", "a" + c + "a");
        }
        String[] rows = new String[16];
        java.util.Arrays.fill(rows, "|");
        checkHole("| in row 15", 15, 0, rows);
        rows[15] = "d";
        checkHole("an outlet in row 15", -1, 0, rows);
    }

    /** "or a lift to an inlet that is not there" */
    private static void holeIsALiftToNoInlet() {
        for (int k = 0; k < 4; k++) {
            String what = "a lift to inlet " + k;
            MarbleBoard board = Check.board("|a", (char) ('A' + k) + "a");
            for (int other = 0; other < 4; other++) {
                board.inlet(other, other == k ? -1 : 0);
            }
            Check.same(what + ", not there", board.hole(), 2);
            Check.same(what + ", not there, freeze", board.freeze(), 0);
            board.inlet(k, 1);
            Check.same(what + ", there", board.hole(), MarbleBoard.NONE);
            Check.same(what + ", there, freeze", board.freeze(), 1);
            board.inlet(k, -1);
            Check.same(what + ", not there any more", board.hole(), 2);
        }
        checkHole("a lift to no inlet that is not reached", -1, 1, "Ba", "CD");
    }

    /** "The board is FROZEN by freeze(); each call that builds ends that, and takes all marbles off." */
    private static void buildingEndsFreezingAndTakesMarblesOff() {
        for (int call = 0; call < BUILDING_CALLS; call++) {
            MarbleBoard board = Boards.crowded();
            build(board, call);
            String what = "building call " + call;
            Check.same(what + ": frozen", Check.isFrozen(board), call >= LAYOUT_CALLS);
            Check.same(what + ": marbles", board.marbles(0), 0);
            Check.same(what + ": held", board.marbles(1), 0);
            Check.refusesArgument(what + ": first marble", () -> board.marbles(2));
            if (call < LAYOUT_CALLS) {
                Check.refusesState(what + ": roll", () -> board.roll(0));
            }
        }
    }

    static final int BUILDING_CALLS = 7;
    /** From this one on they freeze the board anew. */
    static final int LAYOUT_CALLS = 5;

    /** Each call that builds, with as little as it can build on the mixed board. */
    static void build(MarbleBoard board, int call) {
        switch (call) {
            case 0 -> board.board(5, 4);
            case 1 -> board.row(3, Check.bytes("a.b.c", 0), 0);
            case 2 -> board.cell(3, 3, '.');
            case 3 -> board.pattern(1, 1, 5, 0b01101);
            case 4 -> board.inlet(3, -1);
            case 5 -> board.counter(1);
            default -> board.table(1);
        }
    }

    /** "if it cannot move on, .. the run is a LOOP" */
    private static void runThatCannotMoveOn() {
        MarbleBoard board = Check.frozen(Check.columns(0, 1), "0|", "a0", ".b");
        Check.same("in the first cell", board.drop(0), MarbleBoard.LOOP);
        Check.same("in the second cell", board.drop(1), MarbleBoard.LOOP);
        Check.same("no count", board.count(0) + board.count(1), 0);
        Check.same("nothing to be undone", board.undo(), false);
        board.turn(1, 1, 1);
        Check.same("with an opening", board.drop(1), 1);
        Check.same("and without it again", board.drop(1), MarbleBoard.LOOP);
    }

    /** "or was not gone after moving on 300 times, the run is a LOOP" */
    private static void runOfThreeHundredMoves() {
        for (int moves : new int[] {7, 290, 298, 299, 300}) {
            MarbleBoard board = Boards.withRunOf(moves);
            Check.same("a run of " + moves, board.drop(0), 1);
            Check.same("a run of " + moves + ", count", board.count(1), 1);
            Check.same("a run of " + moves + ", undo", board.undo(), true);
        }
        for (int moves : new int[] {301, 302, 310, 600}) {
            MarbleBoard board = Boards.withRunOf(moves);
            Check.same("a run of " + moves, board.drop(0), MarbleBoard.LOOP);
            Check.same("a run of " + moves + ", count", board.count(1), 0);
            Check.same("a run of " + moves + ", undo", board.undo(), false);
        }
    }

    /** "and the state stays as it was before it" */
    private static void loopLeavesTheState() {
        checkLoop("a LOOP of 301 moves", Boards.withRunOf(301));
        checkLoop("a LOOP at a gate", Boards.withRunToAShutGate(60));
        Probe.changesNothing("a LOOP for ever", TermsEdgeTest::circle, b -> b.drop(0));
        Probe.changesNothing("a LOOP of the mixed board", TermsEdgeTest::leaningToTheGate, b -> b.drop(2));
        Check.same("a LOOP for ever", circle().drop(0), MarbleBoard.LOOP);
        Check.same("a LOOP of the mixed board", leaningToTheGate().drop(2), MarbleBoard.LOOP);
    }

    private static void checkLoop(String what, MarbleBoard board) {
        String before = Check.seen(board);
        Check.same(what, board.drop(0), MarbleBoard.LOOP);
        Check.same(what + " leaves the state", Check.seen(board), before);
    }

    /** Whichever way a marble goes, it is lifted up again, and toggles and the splitter go on turning. */
    private static MarbleBoard circle() {
        MarbleBoard board = Check.board("..s...1", ".<.<..c", "A.A.A..");
        board.inlet(0, 2);
        board.inlet(1, 6);
        board.pattern(2, 0, 7, 0b1011001);
        Check.same("a circle can be frozen", board.freeze(), 1);
        board.drop(1);
        return board;
    }

    private static MarbleBoard leaningToTheGate() {
        MarbleBoard board = Boards.played();
        board.turn(3, 0, 1);
        return board;
    }

    /** "AT ONCE, there are up to 6 MARBLES on the board" */
    private static void sixMarbles() {
        MarbleBoard board = Boards.full();
        Check.same("six marbles", board.marbles(0), 6);
        Check.same("the seventh, in a free cell", board.roll(0), false);
        Check.same("the seventh, in another free cell", board.roll(1), false);
        Check.same("still six", board.marbles(0), 6);
        board.turn(0, 6, 1);
        Check.same("one goes", board.tick(2), 1);
        Check.same("five marbles", board.marbles(0), 5);
        Check.same("the sixth again", board.roll(1), true);
        Check.same("the seventh again", board.roll(0), false);
    }

    /** "each in a cell of its own, in the order in which they came" */
    private static void eachInACellOfItsOwn() {
        MarbleBoard board = Boards.full();
        int[] due = {12, 10, 8, 6, 4, 2};
        for (int i = 0; i < 6; i++) {
            Check.same("marble " + i, board.marbles(2 + i), due[i]);
        }
        Check.same("all are held", board.tick(64), 0);
        Check.same("six held", board.marbles(1), 6);
        for (int i = 0; i < 6; i++) {
            Check.same("marble " + i + " after ticks", board.marbles(2 + i), due[i]);
        }
    }

    /** "otherwise, and when it cannot move on, it stays, is HELD, and nothing changes by it" */
    private static void heldChangesNothing() {
        Probe.changesNothing("a tick with six held", TermsEdgeTest::fullAndHeld, b -> b.tick(1));
        for (char c : "<>[]123s|".toCharArray()) {
            Probe.changesNothing("a tick with one held on " + c, () -> heldOn(c), b -> b.tick(1));
            Probe.changesNothing("64 ticks with one held on " + c, () -> heldOn(c), b -> b.tick(64));
        }
        for (char c : "[]012X".toCharArray()) {
            Probe.changesNothing("a tick with one held that came to " + c + " going right", () -> heldAside(c), b -> b.tick(1));
        }
    }

    private static MarbleBoard fullAndHeld() {
        MarbleBoard board = Boards.full();
        board.tick(1);
        return board;
    }

    /** Each way on from (2, 0) is taken by a marble at a shut gate, so the latest one is held there. */
    private static MarbleBoard heldOn(char c) {
        MarbleBoard board = Check.frozen(Check.columns(1, 2, 3), ".|" + c + "|.", ".000.", "abcda");
        boolean goesStraight = "123|".indexOf(c) >= 0;
        board.roll(goesStraight ? 1 : 0);
        board.roll(2);
        board.tick(1);
        if (goesStraight && c != '|') {
            board.turn(2, 0, c - '0');
        }
        board.roll(1);
        board.tick(1);
        Check.same("all three are held on " + c, board.marbles(1), 3);
        Check.same("the latest one on " + c, board.marbles(4), 2);
        return board;
    }

    /** The way on from (1, 1), to which a marble came going right, is taken by one at a shut gate in (1, 2) or (2, 2). */
    private static MarbleBoard heldAside(char c) {
        MarbleBoard board = Check.frozen(Check.columns(0, 2), "\\.|.", "." + c + "|.", ".00.", "aabc");
        boolean isLatch = c == '[' || c == ']';
        board.roll(isLatch ? 0 : 1);
        board.tick(2);
        if (isLatch) {
            board.turn(1, 1, c == '[' ? 0 : 1);
        }
        board.roll(0);
        board.tick(2);
        Check.same("both are held with " + c, board.marbles(1), 2);
        Check.same("the latest one on " + c, board.marbles(3), 5);
        return board;
    }

    /** The 300 times are those of a run: at once a marble may go on for ever. */
    private static void noEndOfMovingAtOnce() {
        MarbleBoard board = Check.frozen(Check.columns(0), "|", "|", "A");
        board.roll(0);
        for (int i = 1; i <= 6; i++) {
            Check.same("64 ticks, " + i + " times", board.tick(64), 0);
            Check.same("it is on its way", board.marbles(2), 64 * i % 3);
            Check.same("it is not held", board.marbles(1), 0);
        }
    }
}
