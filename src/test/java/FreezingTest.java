/** Promises 7 and 8: freeze and hole. */
public final class FreezingTest {
    public static void main(String[] args) {
        freezeNeedsAnInlet();
        freezeRefusesHoles();
        freezeCountsBits();
        freezeStartsAnew();
        refusedFreezeTakesMarblesOnly();
        holeIsReachedNothing();
        holeIsBeyondTheBoard();
        holeIsALiftToNowhere();
        holeDependsOnHowAMarbleComes();
        holeOfMovingCells();
        holeOfSplitters();
        holeIsTheLeastPlace();
        Check.end();
    }

    private static void freezeNeedsAnInlet() {
        MarbleBoard board = Check.board("a");
        Check.refusesState("freeze without an inlet", board::freeze);
        board.inlet(2, 0);
        Check.same("freeze with one", board.freeze(), 1);
        Check.same("frozen", Check.isFrozen(board), true);
        board.inlet(2, -1);
        Check.refusesState("freeze without an inlet again", board::freeze);
        Check.same("not frozen", Check.isFrozen(board), false);
    }

    private static void freezeRefusesHoles() {
        MarbleBoard board = Check.board("|.", ".a");
        board.inlet(0, 0);
        Check.same("freeze with a hole", board.freeze(), 0);
        Check.same("frozen with a hole", Check.isFrozen(board), false);
        board.cell(0, 1, 'b');
        Check.same("freeze without it", board.freeze(), 1);
    }

    private static void freezeCountsBits() {
        checkBits("28 toggles", 1, "<><><><><><><><", "<><><><><><><", "");
        checkBits("29 toggles", 0, "<><><><><><><><", "<><><><><><><>", "");
        checkBits("28 latches", 1, "[][][][][][][][", "[][][][][][][", "");
        checkBits("29 latches", 0, "[][][][][][][][", "[][][][][][][[", "");
        checkBits("14 gates", 1, "01230123012301", "", "");
        checkBits("14 gates and a toggle", 0, "01230123012301", "<", "");
        checkBits("15 gates", 0, "012301230123012", "", "");
        checkBits("9 splitters", 1, "sssssssss", "", "");
        checkBits("9 splitters and a latch", 1, "sssssssss", "[", "");
        checkBits("9 splitters and two toggles", 0, "sssssssss", "<<", "");
        checkBits("9 splitters and a gate", 0, "sssssssss", "0", "");
        checkBits("10 splitters", 0, "ssssssssss", "", "");
        checkBits("8 splitters, a gate, two toggles", 1, "ssssssss", "0<>", "");
        checkBits("8 splitters, a gate, three toggles", 0, "ssssssss", "0<>[", "");
        checkBits("28 in the last row", 1, "", "", "<><><><><><><><");
    }

    /** The moving cells are not reached, and count all the same. */
    private static void checkBits(String what, int due, String first, String second, String last) {
        MarbleBoard board = Check.board("a" + padded(first), "." + padded(second), "." + padded(last));
        board.inlet(0, 0);
        Check.same(what, board.freeze(), due);
        Check.same(what + ", frozen", Check.isFrozen(board), due == 1);
        Check.same(what + ", hole", board.hole(), MarbleBoard.NONE);
    }

    private static String padded(String cells) {
        return cells + ".".repeat(15 - cells.length());
    }

    private static void freezeStartsAnew() {
        MarbleBoard board = Check.frozen(Check.columns(1), ".<.", "a.b");
        board.drop(0);
        board.drop(0);
        board.drop(0);
        board.roll(0);
        Check.same("freeze with a marble", board.freeze(), 1);
        Check.same("marbles", board.marbles(0), 0);
        Check.same("count 0", board.count(0), 0);
        Check.same("count 1", board.count(1), 0);
        Check.same("nothing to be undone", board.undo(), false);
        Check.same("the value stays", board.value(1, 0), 1);
        MarbleBoard jammed = Check.frozen(Check.columns(0), "0", "a");
        jammed.roll(0);
        jammed.tick(1);
        jammed.freeze();
        Check.same("held after freeze", jammed.marbles(1), 0);
        Check.same("still frozen", Check.isFrozen(jammed), true);
    }

    private static void refusedFreezeTakesMarblesOnly() {
        MarbleBoard board = Check.frozen(Check.columns(0), "a");
        board.drop(0);
        board.cell(0, 0, '|');
        Check.same("freeze with a hole", board.freeze(), 0);
        Check.same("the count stays", board.count(0), 1);
        Check.same("marbles", board.marbles(0), 0);
        board.cell(0, 0, 'a');
        board.freeze();
        Check.same("the count after the next freeze", board.count(0), 0);
        Check.same("nothing to be undone", board.undo(), false);
    }

    private static void checkHole(String what, int due, int[] columns, String... rows) {
        MarbleBoard board = Check.board(rows);
        for (int k = 0; k < columns.length; k++) {
            board.inlet(k, columns[k]);
        }
        checkHole(what, due, board);
    }

    private static void checkHole(String what, int due, MarbleBoard board) {
        Check.same(what, board.hole(), due);
        Check.same(what + ", freeze", board.freeze(), due == MarbleBoard.NONE ? 1 : 0);
        Check.same(what + ", after freeze", board.hole(), due);
    }

    private static void holeIsReachedNothing() {
        checkHole("nothing below the inlet", 1, Check.columns(1), "...");
        checkHole("nothing that is not reached", -1, Check.columns(1), ".a.");
        checkHole("nothing in the second row", 4, Check.columns(1), ".|.", "...");
        checkHole("nothing to the left", 3, Check.columns(1), "./.", ".a.");
        checkHole("nothing to the right", 5, Check.columns(1), ".\\.", "ab.");
        checkHole("nothing behind an outlet", -1, Check.columns(0), "a", ".");
        checkHole("only one inlet is bad", 2, Check.columns(0, 2), "a..");
        MarbleBoard board = Check.board("..a", "...");
        Check.same("no inlet, no hole", board.hole(), MarbleBoard.NONE);
        board.inlet(3, 0);
        checkHole("the last inlet", 0, board);
        board.inlet(3, -1);
        Check.same("the inlet is gone again", board.hole(), MarbleBoard.NONE);
    }

    private static void holeIsBeyondTheBoard() {
        checkHole("beyond the left side", 0, Check.columns(0), "/a", "aa");
        checkHole("beyond the right side", 1, Check.columns(1), "a\\", "aa");
        checkHole("left of column 1 is none", -1, Check.columns(1), "./", "a.");
        checkHole("beyond the last row", 2, Check.columns(0), "|.", "|.");
        checkHole("beyond the last row to the left", 3, Check.columns(1), ".|", "./");
        checkHole("beyond the only row", 0, Check.columns(0), "|");
        checkHole("beyond the sides at full width", 15, Check.columns(15),
            "...............\\", "aaaaaaaaaaaaaaaa");
        checkHole("a side cell that is not reached", -1, Check.columns(1), "/|\\", "/a\\");
    }

    private static void holeIsALiftToNowhere() {
        checkHole("a lift to inlet 0", -1, Check.columns(0), "|", "A");
        checkHole("a lift to inlet 1", 1, Check.columns(0), "|", "B");
        checkHole("a lift to inlet 3", 1, Check.columns(0, 0, 0), "|", "D");
        checkHole("lifts to all inlets", -1, Check.columns(0, 1, 2, 3), "DCBA");
        checkHole("a lift that is not reached", -1, Check.columns(0), "aC");
        MarbleBoard board = Check.board("|C", "Ca");
        board.inlet(0, 0);
        checkHole("a lift to inlet 2", 2, board);
        board.inlet(2, 1);
        checkHole("a lift to itself", -1, board);
        board.row(1, Check.bytes("Aa", 0), 0);
        board.inlet(0, -1);
        board.inlet(1, 0);
        checkHole("a lift to inlet 0, not there", 2, board);
        board.inlet(0, 1);
        board.row(1, Check.bytes("Ca", 0), 0);
        board.cell(1, 0, '.');
        checkHole("nothing below the inlet of a lift", 1, board);
    }

    private static void holeDependsOnHowAMarbleComes() {
        checkHole("X straight", -1, Check.columns(0), "X", "a");
        checkHole("X at the left side, straight", -1, Check.columns(0), "X.", "a.");
        checkHole("X going left beyond the side", 2, Check.columns(1), "./", "X.", "aa");
        checkHole("X going left, then nothing", 8, Check.columns(2), "../.", ".X..", "....");
        checkHole("X going right", -1, Check.columns(0), "\\...", ".X..", "..a.");
        checkHole("X going right, then nothing", 10, Check.columns(0), "\\...", ".X..", ".a..");
        checkHole("X both ways", -1, Check.columns(0, 2), "\\./", ".X.", "a.b");
        checkHole("X both ways and straight", -1, Check.columns(0, 1, 2), "\\|/", ".X.", "abc");
        checkHole("X both ways and straight, a hole", 7, Check.columns(0, 1, 2), "\\|/", ".X.", "a.c");
    }

    private static void holeOfMovingCells() {
        checkHole("a toggle's left, leaning right", 3, Check.columns(1), ".>.", ".aa");
        checkHole("a toggle's right, leaning left", 5, Check.columns(1), ".<.", "aa.");
        checkHole("a toggle beside the left side", 0, Check.columns(0), ">.", ".a");
        checkHole("a latch straight", -1, Check.columns(1), ".[.", "a.b");
        checkHole("a latch straight, its right", 5, Check.columns(1), ".[.", "ab.");
        checkHole("a latch straight, its left", 3, Check.columns(1), ".].", ".ab");
        checkHole("a latch going left", -1, Check.columns(1), "./", "[.", "a.");
        checkHole("a latch going left, nothing below", 4, Check.columns(1), "./", "[.", ".a");
        checkHole("a latch going right", -1, Check.columns(0), "\\.", ".[", ".a");
        checkHole("a latch going right, nothing below", 5, Check.columns(0), "\\.", ".[", "a.");
        checkHole("a latch both ways", -1, Check.columns(0, 1), "\\|.", ".[.", "aaa");
        checkHole("a latch both ways, nothing below", 7, Check.columns(0, 1), "\\|.", ".[.", "a.a");
        checkHole("a latch both ways, nothing to the left", 6, Check.columns(0, 1), "\\|.", ".[.", ".aa");
        checkHole("a shut gate straight", 1, Check.columns(0), "0", ".");
        checkHole("a gate straight", -1, Check.columns(0), "0.", "a.");
        checkHole("a gate going left", -1, Check.columns(2), "../", ".0.", "a..");
        checkHole("a gate going left beyond the side", 2, Check.columns(1), "./", "0.", "aa");
        checkHole("a gate going right", 8, Check.columns(0), "\\..", ".3.", "aa.");
    }

    private static void holeOfSplitters() {
        MarbleBoard board = Check.board(".s.", "a..");
        board.inlet(0, 1);
        checkHole("a new splitter's right", 5, board);
        board.pattern(1, 0, 3, 0);
        checkHole("a splitter to the left alone", -1, board);
        board.pattern(1, 0, 3, 0b1000);
        checkHole("a bit beyond the pattern", -1, board);
        board.pattern(1, 0, 3, 0b100);
        checkHole("a splitter's last bit", 5, board);
        board.row(1, Check.bytes("..b", 0), 0);
        checkHole("a splitter's other bits", 3, board);
        board.pattern(1, 0, 8, 0xFF);
        checkHole("a splitter to the right alone", -1, board);
        board.pattern(1, 0, 8, 0x7F);
        checkHole("a splitter's last bit of eight", 3, board);
        board.pattern(1, 0, 1, 1);
        checkHole("a splitter of one bit", -1, board);
        MarbleBoard side = Check.board("s.", ".a");
        side.inlet(0, 0);
        checkHole("a splitter at the side", 0, side);
        side.pattern(0, 0, 2, 3);
        checkHole("a splitter at the side that goes right", -1, side);
    }

    private static void holeIsTheLeastPlace() {
        checkHole("of two in a row", 5, Check.columns(1, 2), "|||.", "....");
        checkHole("of two rows", 2, Check.columns(0, 2), "|..", "...");
        checkHole("not that of the first inlet", 0, Check.columns(2, 0), "..|", "...");
        checkHole("a place in a wide board", 16 * 15 + 15, Check.columns(15), deepBoard());
    }

    private static String[] deepBoard() {
        String[] rows = new String[16];
        for (int y = 0; y < 16; y++) {
            rows[y] = "...............|";
        }
        return rows;
    }
}
