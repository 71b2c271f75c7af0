import java.util.function.Consumer;

/** The boundary cases of promises 1 to 6, a test for each sentence, which stands above it. */
public final class BuildingEdgeTest {
    private static final String ALL = "./\\|XabcdABCD<>[]0123s";

    public static void main(String[] args) {
        newBoardIsOneByOne();
        newBoardIsNotFrozen();
        newBoardHasNoInlets();
        newTableIsZero();
        boardHasNothing();
        boardHasNoInlets();
        boardRefusesSizes();
        rowTakesTheLowestByteFirst();
        rowTakesAsManyAsTheBoardIsWide();
        rowRefusesRows();
        rowRefusesBytes();
        cellInEachCorner();
        cellRefusesCells();
        cellRefusesCharacters();
        patternTakesBitsOfBits();
        patternStartsAtZero();
        patternRefusesOtherCells();
        patternRefusesLengths();
        inletInEachColumn();
        inletIsNotThereAnyMore();
        inletRefusesNumbers();
        inletRefusesColumns();
        refusedBuildingKeepsFrozen();
        Check.end();
    }

    /** Promise 1: "A board of 1 by 1 with nothing" */
    private static void newBoardIsOneByOne() {
        MarbleBoard board = new MarbleBoard();
        Check.same("its cell", board.look(0, 0), '.');
        Check.refusesArgument("a second column", () -> board.look(1, 0));
        Check.refusesArgument("a second row", () -> board.look(0, 1));
        Check.refusesArgument("its cell is not moving", () -> board.value(0, 0));
        Check.refusesArgument("an inlet in a second column", () -> board.inlet(0, 1));
        Check.refusesArgument("a second row to build", () -> board.row(1, '.', 0));
        board.inlet(0, 0);
        Check.same("its cell is a hole", board.hole(), 0);
        Check.same("it cannot be frozen", board.freeze(), 0);
    }

    /** Promise 1: "not frozen" */
    private static void newBoardIsNotFrozen() {
        MarbleBoard board = new MarbleBoard();
        Check.refusesState("drop", () -> board.drop(0));
        Check.refusesState("undo", board::undo);
        Check.refusesState("roll", () -> board.roll(0));
        Check.refusesState("tick", () -> board.tick(0));
        Check.refusesState("explore", () -> board.explore(1));
        Check.refusesState("canReach", () -> board.canReach(0, 0));
        Check.refusesState("jam", () -> board.jam(1));
        Check.refusesState("input", () -> board.input(0, 0));
        Check.same("no marbles", board.marbles(0), 0);
        Check.same("none held", board.marbles(1), 0);
        for (int o = 0; o < 4; o++) {
            Check.same("count " + o, board.count(o), 0);
        }
    }

    /** Promise 1: "no inlets" */
    private static void newBoardHasNoInlets() {
        MarbleBoard board = new MarbleBoard();
        Check.refusesState("freeze", board::freeze);
        Check.same("no hole", board.hole(), MarbleBoard.NONE);
        board.cell(0, 0, 'a');
        Check.refusesState("freeze with an outlet", board::freeze);
        board.inlet(3, 0);
        board.freeze();
        for (int k = 0; k < 3; k++) {
            int inlet = k;
            Check.refusesArgument("inlet " + k, () -> board.drop(inlet));
        }
    }

    /** Promise 1: "all values of the table 0" */
    private static void newTableIsZero() {
        MarbleBoard board = new MarbleBoard();
        board.table(3);
        for (int r = 0; r < 8; r++) {
            Check.same("row " + r, board.look(2 * r, 9), 'a');
        }
    }

    /** Promise 2: "a board of this size with nothing in its cells" */
    private static void boardHasNothing() {
        int[][] sizes = {{1, 1}, {16, 1}, {1, 16}, {16, 16}};
        for (int[] size : sizes) {
            MarbleBoard board = new MarbleBoard();
            board.board(16, 16);
            board.cell(0, 0, 's');
            board.cell(15, 0, 'a');
            board.cell(0, 15, '<');
            board.cell(15, 15, '3');
            board.board(size[0], size[1]);
            String nothing = (".".repeat(size[0]) + "\n").repeat(size[1]);
            Check.same(size[0] + " by " + size[1], Check.seen(board), nothing);
        }
        MarbleBoard again = new MarbleBoard();
        again.board(16, 16);
        again.cell(15, 15, '3');
        again.board(1, 1);
        again.board(16, 16);
        Check.same("great, small and great again", again.look(15, 15), '.');
    }

    /** Promise 2: "no inlets" */
    private static void boardHasNoInlets() {
        MarbleBoard board = Check.board("aaaa");
        for (int k = 0; k < 4; k++) {
            board.inlet(k, k);
        }
        Check.lay(board, "aaaa");
        Check.refusesState("freeze after board", board::freeze);
        board.inlet(0, 0);
        board.freeze();
        for (int k = 1; k < 4; k++) {
            int inlet = k;
            Check.refusesArgument("inlet " + k + " after board", () -> board.drop(inlet));
        }
    }

    /** Promise 2: "IllegalArgumentException: w or h is not 1 .. 16." */
    private static void boardRefusesSizes() {
        for (int n : Check.beside(1, 16)) {
            for (int fine : new int[] {1, 16}) {
                refuses("board(" + n + ", " + fine + ")", b -> b.board(n, fine));
                refuses("board(" + fine + ", " + n + ")", b -> b.board(fine, n));
            }
            refuses("board(" + n + ", " + n + ")", b -> b.board(n, n));
        }
    }

    /** On a played board, which must be as it was afterwards. */
    private static void refuses(String what, Consumer<MarbleBoard> call) {
        MarbleBoard board = Boards.played();
        Check.refusesArgument(what, () -> call.accept(board));
        Probe.changesNothing(what, Boards::played, call);
    }

    /** Promise 3: "row y gets the characters that are the bytes of a, the lowest first, and behind those of a the bytes of b" */
    private static void rowTakesTheLowestByteFirst() {
        MarbleBoard board = new MarbleBoard();
        board.board(16, 16);
        for (int y : new int[] {0, 15}) {
            board.row(y, 0x6261587C5C2F2E73L, 0x3C44434241646333L);
            String due = "s./\\|Xab3cdABCD<";
            for (int x = 0; x < 16; x++) {
                Check.same("row " + y + ", column " + x, board.look(x, y), due.charAt(x));
            }
        }
        Check.same("the row between", board.look(0, 1), '.');
    }

    /** Promise 3: "as many as the board is wide" */
    private static void rowTakesAsManyAsTheBoardIsWide() {
        for (int w = 1; w <= 16; w++) {
            MarbleBoard board = new MarbleBoard();
            board.board(w, 1);
            String row = "|".repeat(w - 1) + "b";
            long beyondA = w >= 8 ? 0 : -1L << 8 * w;
            long beyondB = w <= 8 ? -1L : w == 16 ? 0 : -1L << 8 * (w - 8);
            board.row(0, Check.bytes(row, 0) | beyondA, Check.bytes(row, 8) | beyondB);
            Check.looksLike("a row of " + w, board, row);
        }
        for (long b : new long[] {0, -1, Long.MIN_VALUE, Long.MAX_VALUE}) {
            MarbleBoard board = new MarbleBoard();
            board.board(8, 1);
            board.row(0, Check.bytes("abcdabcd", 0), b);
            Check.looksLike("a row of 8 before " + b, board, "abcdabcd");
        }
        MarbleBoard one = new MarbleBoard();
        one.row(0, Long.MIN_VALUE | 'c', Long.MAX_VALUE);
        Check.looksLike("a row of 1", one, "c");
        one.row(0, Long.MAX_VALUE ^ 0xFF ^ 'd', Long.MIN_VALUE);
        Check.looksLike("a row of 1 again", one, "d");
    }

    /** Promise 3: "IllegalArgumentException: there is no such row" */
    private static void rowRefusesRows() {
        long fine = Check.bytes("||||||||", 0);
        for (int y : Check.beside(0, 3)) {
            refuses("row " + y + " of 4", b -> b.row(y, fine, fine));
        }
        refuses("row 15 of 4", b -> b.row(15, fine, fine));
        MarbleBoard high = new MarbleBoard();
        high.board(1, 16);
        high.row(15, '|', 0);
        Check.same("row 15 of 16", high.look(0, 15), '|');
        Check.refusesArgument("row 16 of 16", () -> high.row(16, '|', 0));
    }

    /** Promise 3: "or one of them tells no cell" */
    private static void rowRefusesBytes() {
        for (int x = 0; x < 5; x++) {
            long hole = Check.bytes("aaaaa", 0) & ~(0xFFL << 8 * x);
            for (long bad : new long[] {0, 0x80, 0xFF, 'e', '`', 'E', '@', '4', ' ', '|' | 0x80}) {
                long a = hole | bad << 8 * x;
                refuses("byte " + bad + " in column " + x, b -> b.row(3, a, 0));
            }
        }
        for (long a : new long[] {0, -1, Long.MIN_VALUE, Long.MAX_VALUE}) {
            refuses("a row of " + a, b -> b.row(0, a, a));
        }
        rowRefusesBytesOfB();
    }

    private static void rowRefusesBytesOfB() {
        long fine = Check.bytes("||||||||", 0);
        for (int x = 0; x < 8; x++) {
            MarbleBoard board = new MarbleBoard();
            board.board(16, 1);
            long bad = fine ^ 1L << 8 * x;
            Check.refusesArgument("a wrong byte " + x + " of b", () -> board.row(0, fine, bad));
            Check.refusesArgument("a wrong byte " + x + " of a", () -> board.row(0, bad, fine));
            Check.looksLike("no column is built", board, "................");
        }
    }

    /** Promise 4: "a cell gets a character" */
    private static void cellInEachCorner() {
        int[][] corners = {{0, 0}, {15, 0}, {0, 15}, {15, 15}};
        for (char c : ALL.toCharArray()) {
            MarbleBoard board = new MarbleBoard();
            board.board(16, 16);
            for (int[] corner : corners) {
                board.cell(corner[0], corner[1], c);
                Check.same(c + " in (" + corner[0] + ", " + corner[1] + ")", board.look(corner[0], corner[1]), c);
            }
            Check.same("the cell beside", board.look(1, 0), '.');
            Check.same("the cell below", board.look(0, 1), '.');
        }
    }

    /** Promise 4: "IllegalArgumentException: there is no such cell" */
    private static void cellRefusesCells() {
        for (int x : Check.beside(0, 4)) {
            refuses("cell(" + x + ", 0)", b -> b.cell(x, 0, 'a'));
            refuses("cell(" + x + ", 3)", b -> b.cell(x, 3, 'a'));
        }
        for (int y : Check.beside(0, 3)) {
            refuses("cell(0, " + y + ")", b -> b.cell(0, y, 'a'));
            refuses("cell(4, " + y + ")", b -> b.cell(4, y, 'a'));
        }
    }

    /** Promise 4: "or it tells none" */
    private static void cellRefusesCharacters() {
        for (int c = 0; c < 0x10000; c += c < 0x200 ? 1 : 0xFF) {
            char told = (char) c;
            if (ALL.indexOf(told) < 0) {
                MarbleBoard board = Check.board("<");
                Check.refusesArgument("character " + c, () -> board.cell(0, 0, told));
                Check.same("after character " + c, board.look(0, 0), '<');
            }
        }
        refuses("the least character", b -> b.cell(1, 1, Character.MIN_VALUE));
        refuses("the greatest character", b -> b.cell(1, 1, Character.MAX_VALUE));
        refuses("the character behind d", b -> b.cell(1, 1, 'e'));
    }

    /** Promise 5: "a splitter gets a pattern of so many bits, bit i being bit i of bits" */
    private static void patternTakesBitsOfBits() {
        int[] many = {0, -1, Integer.MIN_VALUE, Integer.MAX_VALUE, 0x80, 0x7F, 0x100, 0xFFFFFF00, 1, 0xFE};
        for (int bits : many) {
            for (int length : new int[] {1, 7, 8}) {
                MarbleBoard board = Check.board(".s.", "a.b");
                board.inlet(0, 1);
                board.pattern(1, 0, length, bits);
                board.freeze();
                for (int i = 0; i <= length; i++) {
                    Check.same("bit " + i + " of " + length + " of " + bits, board.drop(0), bits >> i % length & 1);
                }
            }
        }
    }

    /** Promise 5: "and the position 0" */
    private static void patternStartsAtZero() {
        MarbleBoard board = Check.board("s");
        board.pattern(0, 0, 8, 0);
        board.turn(0, 0, 7);
        board.pattern(0, 0, 8, 0);
        Check.same("the same pattern again", board.value(0, 0), 0);
        board.turn(0, 0, 7);
        board.pattern(0, 0, 1, 1);
        Check.same("a shorter one", board.value(0, 0), 0);
        Check.refusesArgument("it has no second position", () -> board.turn(0, 0, 1));
        board.pattern(0, 0, 8, 1);
        Check.same("it has eight positions then", board.turn(0, 0, 7), 0);
    }

    /** Promise 5: "IllegalArgumentException: there is no splitter" */
    private static void patternRefusesOtherCells() {
        for (char c : ALL.substring(0, ALL.length() - 1).toCharArray()) {
            MarbleBoard board = Check.board("s" + c);
            Check.refusesArgument("a pattern of " + c, () -> board.pattern(1, 0, 2, 1));
            Check.same("after a pattern of " + c, board.look(1, 0), c);
        }
        for (int x : Check.beside(0, 4)) {
            refuses("pattern in column " + x, b -> b.pattern(x, 1, 2, 1));
        }
        for (int y : Check.beside(0, 3)) {
            refuses("pattern in row " + y, b -> b.pattern(1, y, 2, 1));
        }
        refuses("pattern of a gate", b -> b.pattern(1, 2, 2, 1));
    }

    /** Promise 5: "or length is not 1 .. 8" */
    private static void patternRefusesLengths() {
        for (int length : Check.beside(1, 8)) {
            for (int bits : new int[] {0, -1, Integer.MIN_VALUE, Integer.MAX_VALUE}) {
                refuses("pattern of " + length + " bits of " + bits, b -> b.pattern(1, 1, length, bits));
            }
        }
    }

    /** Promise 6: "inlet k is in this column" */
    private static void inletInEachColumn() {
        for (int k : new int[] {0, 3}) {
            MarbleBoard board = Check.board("................");
            for (int x = 0; x < 16; x++) {
                board.inlet(k, x);
                Check.same("inlet " + k + " in column " + x, board.hole(), x);
            }
        }
    }

    /** Promise 6: "with x = -1 it is not there any more" */
    private static void inletIsNotThereAnyMore() {
        for (int k = 0; k < 4; k++) {
            int inlet = k;
            int other = 3 - k;
            MarbleBoard board = Check.board("ab");
            board.inlet(k, -1);
            Check.refusesState("inlet " + k + " was not there", board::freeze);
            board.inlet(k, 0);
            Check.same("inlet " + k + " is there", board.freeze(), 1);
            board.inlet(k, -1);
            Check.same("that is building", Check.isFrozen(board), false);
            Check.refusesState("inlet " + k + " is not there any more", board::freeze);
            board.inlet(other, 1);
            board.freeze();
            Check.refusesArgument("a drop from it", () -> board.drop(inlet));
            Check.same("the other one is there", board.drop(other), 1);
        }
    }

    /** Promise 6: "IllegalArgumentException: k is not 0 .. 3" */
    private static void inletRefusesNumbers() {
        for (int k : Check.beside(0, 3)) {
            for (int x : new int[] {-1, 0, 4}) {
                refuses("inlet(" + k + ", " + x + ")", b -> b.inlet(k, x));
            }
        }
    }

    /** Promise 6: "or x is neither -1 nor a column" */
    private static void inletRefusesColumns() {
        for (int k = 0; k < 4; k++) {
            int inlet = k;
            for (int x : Check.beside(-1, 4)) {
                refuses("inlet(" + k + ", " + x + ")", b -> b.inlet(inlet, x));
            }
            refuses("inlet(" + k + ", 15)", b -> b.inlet(inlet, 15));
        }
        MarbleBoard wide = new MarbleBoard();
        wide.board(16, 1);
        Check.refusesArgument("column 16 of 16", () -> wide.inlet(0, 16));
        Check.refusesState("it is not there", wide::freeze);
    }

    /** "each call that builds ends that": one that is refused does not, and takes no marbles off. */
    private static void refusedBuildingKeepsFrozen() {
        MarbleBoard board = Boards.crowded();
        Check.refusesArgument("board", () -> board.board(17, 1));
        Check.refusesArgument("row", () -> board.row(4, 0, 0));
        Check.refusesArgument("cell", () -> board.cell(0, 0, 'e'));
        Check.refusesArgument("pattern", () -> board.pattern(1, 1, 9, 0));
        Check.refusesArgument("inlet", () -> board.inlet(0, 5));
        Check.refusesArgument("counter", () -> board.counter(9));
        Check.refusesArgument("table", () -> board.table(4));
        Check.same("still frozen", Check.isFrozen(board), true);
        Check.same("its marbles", board.marbles(0), 2);
        Check.same("one held", board.marbles(1), 1);
        Check.same("where the first one is", board.marbles(2), 14);
        Check.same("where the second one is", board.marbles(3), 0);
    }
}
