/** Promises 1 to 6: a new object, and the calls that build. */
public final class BuildingTest {
    private static final String ALL = "./\\|XabcdABCD<>[]0123s";

    public static void main(String[] args) {
        newObject();
        constants();
        boardHasSizeAndNothing();
        boardRefusesSizes();
        rowTakesBytesLowestFirst();
        rowIgnoresWhatIsBeyondTheWidth();
        rowRefusesWholeRow();
        cellTakesEachCharacter();
        cellRefuses();
        newSplitterHasFirstPattern();
        patternIsFollowed();
        patternRefuses();
        inletComesAndGoes();
        inletRefuses();
        eachBuildingCallEndsFreezing();
        refusedBuildingChangesNothing();
        Check.end();
    }

    private static void newObject() {
        MarbleBoard board = new MarbleBoard();
        Check.looksLike("a new board", board, ".");
        Check.same("a new board's hole", board.hole(), MarbleBoard.NONE);
        Check.refusesState("a new board has no inlet", board::freeze);
        Check.refusesState("a new board is not frozen", () -> board.tick(0));
        for (int o = 0; o < 4; o++) {
            int outlet = o;
            Check.same("a new count", board.count(outlet), 0);
        }
        Check.same("a new board's marbles", board.marbles(0), 0);
        Check.same("a new board's held", board.marbles(1), 0);
        board.table(3);
        Check.same("new values of the table", Check.seen(board).endsWith("a.a.a.a.a.a.a.a\n"), true);
    }

    private static void constants() {
        Check.same("LOOP", MarbleBoard.LOOP, -1);
        Check.same("MANY", MarbleBoard.MANY, -1);
        Check.same("NONE", MarbleBoard.NONE, -1);
    }

    private static void boardHasSizeAndNothing() {
        MarbleBoard board = Check.board("|a", "b<");
        board.inlet(0, 0);
        board.inlet(3, 1);
        board.board(3, 2);
        Check.looksLike("board(3, 2)", board, "...", "...");
        Check.refusesState("board takes the inlets", board::freeze);
        board.board(16, 1);
        Check.looksLike("board(16, 1)", board, "................");
        board.board(1, 16);
        Check.same("board(1, 16)", Check.seen(board), ".\n".repeat(16));
        board.board(16, 16);
        board.cell(15, 15, 's');
        board.board(16, 16);
        Check.same("the last cell is cleared", board.look(15, 15), '.');
    }

    private static void boardRefusesSizes() {
        int[][] sizes = {{0, 1}, {1, 0}, {17, 1}, {1, 17}, {-1, 1}, {1, -1},
            {Integer.MIN_VALUE, 1}, {1, Integer.MAX_VALUE}, {0, 0}};
        MarbleBoard board = Check.board("|/", "ab");
        for (int[] size : sizes) {
            Check.refusesArgument("board(" + size[0] + ", " + size[1] + ")", () -> board.board(size[0], size[1]));
        }
        Check.looksLike("a refused board", board, "|/", "ab");
    }

    private static void rowTakesBytesLowestFirst() {
        MarbleBoard board = new MarbleBoard();
        board.board(16, 2);
        board.row(1, Check.bytes("./\\|Xabc", 0), Check.bytes("dABCD<>[", 0));
        Check.looksLike("row of 16", board, "................", "./\\|XabcdABCD<>[");
        board.row(0, Check.bytes("]0123s..", 0), Check.bytes("]0123sss", 0));
        Check.looksLike("row 0 of 16", board, "]0123s..]0123sss", "./\\|XabcdABCD<>[");
        board.board(9, 1);
        board.row(0, Check.bytes("||||||||", 0), 'd');
        Check.looksLike("row of 9", board, "||||||||d");
        board.board(8, 1);
        board.row(0, Check.bytes("abcd0123", 0), 0);
        Check.looksLike("row of 8", board, "abcd0123");
        board.board(1, 1);
        board.row(0, 0x61, 0);
        Check.looksLike("row of 1", board, "a");
    }

    private static void rowIgnoresWhatIsBeyondTheWidth() {
        MarbleBoard board = new MarbleBoard();
        board.board(3, 1);
        board.row(0, Check.bytes("a|b", 0) | 0xFF99887700000000L | 0x65000000L, -1L);
        Check.looksLike("row of 3", board, "a|b");
        board.board(10, 1);
        board.row(0, Check.bytes("........", 0), 0xFFFFFFFFFFFF0000L | 'b' << 8 | 'a');
        Check.looksLike("row of 10", board, "........ab");
    }

    private static void rowRefusesWholeRow() {
        MarbleBoard board = Check.frozen(Check.columns(0), "a|<", "|[b");
        Check.refusesArgument("row(-1)", () -> board.row(-1, Check.bytes("...", 0), 0));
        Check.refusesArgument("row(2)", () -> board.row(2, Check.bytes("...", 0), 0));
        for (String row : new String[] {"e..", ".e.", "..e", "..\0", ".. ", "..4", "..E", "..S", "..\u00e1"}) {
            Check.refusesArgument("row of " + row, () -> board.row(1, Check.bytes(row, 0), 0));
        }
        Check.same("still frozen", Check.isFrozen(board), true);
        Check.looksLike("a refused row", board, "a|<", "|[b");
        MarbleBoard wide = new MarbleBoard();
        wide.board(16, 1);
        Check.refusesArgument("a bad byte of b", () -> wide.row(0, Check.bytes("........", 0), Check.bytes(".......e", 0)));
        Check.refusesArgument("a bad byte of a", () -> wide.row(0, Check.bytes(".......e", 0), Check.bytes("........", 0)));
        Check.looksLike("a refused wide row", wide, "................");
    }

    private static void cellTakesEachCharacter() {
        MarbleBoard board = new MarbleBoard();
        board.board(3, 2);
        for (char c : ALL.toCharArray()) {
            board.cell(1, 1, c);
            Check.looksLike("cell " + c, board, "...", "." + c + ".");
        }
        board.cell(2, 0, 'a');
        Check.looksLike("cell (2, 0)", board, "..a", ".s.");
    }

    private static void cellRefuses() {
        MarbleBoard board = Check.board("ab<", "|/s");
        for (int c = 0; c < 256; c++) {
            char told = (char) c;
            if (ALL.indexOf(told) < 0) {
                Check.refusesArgument("cell of character " + c, () -> board.cell(0, 0, told));
            }
        }
        Check.refusesArgument("cell of the last character", () -> board.cell(0, 0, '\uffff'));
        int[][] beyond = {{-1, 0}, {3, 0}, {0, -1}, {0, 2}, {Integer.MAX_VALUE, 0}, {0, Integer.MIN_VALUE}};
        for (int[] cell : beyond) {
            Check.refusesArgument("cell(" + cell[0] + ", " + cell[1] + ")", () -> board.cell(cell[0], cell[1], 'a'));
        }
        Check.looksLike("a refused cell", board, "ab<", "|/s");
    }

    private static void newSplitterHasFirstPattern() {
        MarbleBoard board = Check.frozen(Check.columns(1), ".s.", "a.b");
        Check.same("first of a new splitter", board.drop(0), 0);
        Check.same("second of a new splitter", board.drop(0), 1);
        Check.same("third of a new splitter", board.drop(0), 0);
        Check.same("position after three", board.value(1, 0), 1);
        board.pattern(1, 0, 3, 0b011);
        board.cell(1, 0, 's');
        Check.same("position of a splitter put anew", board.value(1, 0), 0);
        Check.refusesArgument("a splitter put anew has two bits", () -> board.turn(1, 0, 2));
        board.freeze();
        Check.same("first of a splitter put anew", board.drop(0), 0);
        Check.same("second of a splitter put anew", board.drop(0), 1);
        Check.same("third of a splitter put anew", board.drop(0), 0);
        board.pattern(1, 0, 1, 1);
        board.row(0, Check.bytes(".s.", 0), 0);
        board.freeze();
        Check.same("first of a splitter in a new row", board.drop(0), 0);
        Check.same("second of a splitter in a new row", board.drop(0), 1);
    }

    private static void patternIsFollowed() {
        for (int length = 1; length <= 8; length++) {
            for (int bits : new int[] {0, -1, 0b10110010, 0b01001101, 0x12345600, 1 << length}) {
                followPattern(length, bits);
            }
        }
    }

    private static void followPattern(int length, int bits) {
        MarbleBoard board = Check.board(".s.", "a.b");
        board.inlet(0, 1);
        board.turn(1, 0, 1);
        board.pattern(1, 0, length, bits);
        Check.same("position after pattern", board.value(1, 0), 0);
        board.freeze();
        for (int i = 0; i < 20; i++) {
            String what = "pattern of " + length + " bits of " + bits + ", drop " + i;
            Check.same(what, board.drop(0), bits >> i % length & 1);
            Check.same(what + ", position", board.value(1, 0), (i + 1) % length);
        }
    }

    private static void patternRefuses() {
        MarbleBoard board = Check.frozen(Check.columns(1), ".s.<", "a.b.");
        for (int length : new int[] {0, 9, -1, Integer.MIN_VALUE, Integer.MAX_VALUE, 32, 33}) {
            Check.refusesArgument("pattern of length " + length, () -> board.pattern(1, 0, length, 0));
        }
        int[][] none = {{0, 0}, {0, 1}, {3, 0}, {-1, 0}, {4, 0}, {1, -1}, {1, 2}, {1, 17}};
        for (int[] cell : none) {
            Check.refusesArgument("pattern(" + cell[0] + ", " + cell[1] + ")",
                () -> board.pattern(cell[0], cell[1], 2, 1));
        }
        Check.same("still frozen", Check.isFrozen(board), true);
        Check.same("the pattern is as it was", board.drop(0), 0);
    }

    private static void inletComesAndGoes() {
        MarbleBoard board = Check.board("abcd");
        for (int k = 0; k < 4; k++) {
            board.inlet(k, 3 - k);
        }
        board.freeze();
        for (int k = 0; k < 4; k++) {
            Check.same("from inlet " + k, board.drop(k), 3 - k);
        }
        board.inlet(1, 0);
        board.inlet(2, -1);
        board.freeze();
        Check.same("from the moved inlet", board.drop(1), 0);
        Check.refusesArgument("from the inlet that is gone", () -> board.drop(2));
        Check.same("two inlets in one column", board.drop(3), 0);
        for (int k = 0; k < 4; k++) {
            board.inlet(k, -1);
        }
        Check.refusesState("no inlets any more", board::freeze);
        board.inlet(3, 2);
        Check.same("one is enough", board.freeze(), 1);
        Check.same("from the last inlet", board.drop(3), 2);
    }

    private static void inletRefuses() {
        MarbleBoard board = Check.frozen(Check.columns(0, 1), "abc");
        int[][] bad = {{-1, 0}, {4, 0}, {0, 3}, {0, -2}, {0, 16}, {4, -1}, {-1, -1},
            {0, Integer.MIN_VALUE}, {Integer.MAX_VALUE, 0}};
        for (int[] inlet : bad) {
            Check.refusesArgument("inlet(" + inlet[0] + ", " + inlet[1] + ")", () -> board.inlet(inlet[0], inlet[1]));
        }
        Check.same("still frozen", Check.isFrozen(board), true);
        Check.same("inlet 0 is as it was", board.drop(0), 0);
        board.inlet(0, 2);
        board.freeze();
        Check.same("the last column", board.drop(0), 2);
    }

    private static final int BUILDING_CALLS = 5;

    private static void build(MarbleBoard board, int call) {
        switch (call) {
            case 0: board.board(2, 2); break;
            case 1: board.row(0, Check.bytes(".s.", 0), 0); break;
            case 2: board.cell(1, 0, 's'); break;
            case 3: board.pattern(1, 0, 2, 2); break;
            default: board.inlet(0, 1); break;
        }
    }

    /** A frozen board with counts, a marble that was held, and something to be undone. */
    private static MarbleBoard busyBoard() {
        MarbleBoard board = Check.frozen(Check.columns(1, 2), ".s0", "a.b");
        board.drop(0);
        board.roll(1);
        board.tick(1);
        Check.same("a marble is held", board.marbles(1), 1);
        return board;
    }

    private static void eachBuildingCallEndsFreezing() {
        for (int call = 0; call < BUILDING_CALLS; call++) {
            MarbleBoard board = busyBoard();
            build(board, call);
            Check.same("frozen after building call " + call, Check.isFrozen(board), false);
            Check.same("marbles after building call " + call, board.marbles(0), 0);
            Check.same("held after building call " + call, board.marbles(1), 0);
            Check.refusesArgument("no marble after building call " + call, () -> board.marbles(2));
            Check.same("count after building call " + call, board.count(0), 1);
            Check.refusesState("undo after building call " + call, board::undo);
        }
    }

    private static void refusedBuildingChangesNothing() {
        MarbleBoard board = busyBoard();
        Check.refusesArgument("board", () -> board.board(0, 2));
        Check.refusesArgument("row", () -> board.row(0, 'a', 0));
        Check.refusesArgument("cell", () -> board.cell(0, 0, 'e'));
        Check.refusesArgument("pattern", () -> board.pattern(1, 0, 9, 2));
        Check.refusesArgument("inlet", () -> board.inlet(0, 3));
        Check.refusesArgument("counter", () -> board.counter(9));
        Check.refusesArgument("table", () -> board.table(4));
        Check.looksLike("a busy board", board, ".s0", "a.b");
        Check.same("still frozen", Check.isFrozen(board), true);
        Check.same("its marble", board.marbles(0), 1);
        Check.same("its held marble", board.marbles(1), 1);
        Check.same("its marble's place", board.marbles(2), 2);
        Check.same("its count", board.count(0), 1);
        Check.same("its position", board.value(1, 0), 1);
    }
}
