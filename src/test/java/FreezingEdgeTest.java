/** The boundary cases of promises 7 to 11, a test for each sentence, which stands above it. */
public final class FreezingEdgeTest {
    public static void main(String[] args) {
        freezeMakesCountsZero();
        freezeLeavesNothingToBeUndone();
        freezeKeepsValues();
        freezeNotWithAHole();
        freezeWithTwentyEightBits();
        playWithTwentyEightToggles();
        freezeCountsCellsThatAreNotReached();
        freezeTakesMarblesOff();
        freezeThatAnswersZeroChangesNoCount();
        freezeNeedsAnInlet();
        holeIsTheLeastPlace();
        holeIsByWhatTheBoardIsNow();
        holeIsNone();
        lookTellsTheCellAsItIsNow();
        lookRefusesCells();
        valueOfEachMovingCell();
        valueRefusesCells();
        valueRefusesCellsThatDoNotMove();
        turnTellsWhatItWas();
        turnIsNoBuilding();
        turnRefusesCells();
        turnRefusesCellsThatDoNotMove();
        turnRefusesValues();
        Check.end();
    }

    /** Promise 7: "1, and the board is frozen then, all counts 0" */
    private static void freezeMakesCountsZero() {
        MarbleBoard board = Check.frozen(Check.columns(0, 1, 2, 3), "abcd");
        for (int k = 0; k < 4; k++) {
            board.drop(k);
        }
        for (int k = 0; k < 4; k++) {
            board.roll(k);
        }
        board.tick(1);
        for (int o = 0; o < 4; o++) {
            Check.same("count " + o + " before", board.count(o), 2);
        }
        Check.same("freeze", board.freeze(), 1);
        for (int o = 0; o < 4; o++) {
            Check.same("count " + o + " then", board.count(o), 0);
        }
        Check.same("frozen", Check.isFrozen(board), true);
    }

    /** Promise 7: "and there is nothing to be undone" */
    private static void freezeLeavesNothingToBeUndone() {
        MarbleBoard board = new MarbleBoard();
        board.counter(3);
        for (int i = 0; i < 40; i++) {
            board.drop(0);
        }
        board.freeze();
        Check.same("undo", board.undo(), false);
        board.drop(0);
        Check.same("undo of one", board.undo(), true);
        Check.same("undo of no more", board.undo(), false);
        Check.same("count", board.count(0), 0);
    }

    /** Only the counts become 0: the state is the values of the cells, and freeze() names none. */
    private static void freezeKeepsValues() {
        MarbleBoard board = Boards.played();
        String before = Check.seen(board);
        int position = board.value(1, 1);
        board.freeze();
        Check.same("the cells after freeze", Check.seen(board), before);
        Check.same("the position after freeze", board.value(1, 1), position);
    }

    /** Promise 7: "0, and it is not frozen, if there is a hole" */
    private static void freezeNotWithAHole() {
        MarbleBoard board = Boards.played();
        board.cell(4, 3, '.');
        Check.same("a hole", board.hole(), 19);
        Check.same("freeze", board.freeze(), 0);
        Check.same("frozen", Check.isFrozen(board), false);
        Check.refusesState("drop", () -> board.drop(0));
        Check.refusesState("roll", () -> board.roll(0));
        board.cell(4, 3, 'd');
        Check.same("freeze without it", board.freeze(), 1);
        Check.same("frozen without it", Check.isFrozen(board), true);
    }

    /** Promise 7: "or its moving cells need more than 28 bits (a toggle or latch 1, a gate 2, a splitter 3)" */
    private static void freezeWithTwentyEightBits() {
        checkBits(28, "<".repeat(28));
        checkBits(29, "<".repeat(29));
        checkBits(28, ">".repeat(28));
        checkBits(29, ">".repeat(29));
        checkBits(28, "[".repeat(28));
        checkBits(29, "[".repeat(29));
        checkBits(28, "]".repeat(28));
        checkBits(29, "]".repeat(29));
        for (String gate : new String[] {"0", "1", "2", "3"}) {
            checkBits(28, gate.repeat(14));
            checkBits(29, gate.repeat(14) + "<");
            checkBits(30, gate.repeat(15));
        }
        checkBits(27, "s".repeat(9));
        checkBits(28, "s".repeat(9) + "[");
        checkBits(29, "s".repeat(9) + "[>");
        checkBits(29, "s".repeat(9) + "0");
        checkBits(30, "s".repeat(10));
        checkBits(28, "<>[]0123ssss" + "2<>");
        checkBits(29, "<>[]0123ssss" + "2<>]");
        checkBits(0, "");
        checkBits(0, "/\\|XabcdABCD".repeat(4));
        checkBits(240, "s".repeat(80));
    }

    private static void checkBits(int bits, String cells) {
        MarbleBoard board = new MarbleBoard();
        board.board(16, 16);
        board.cell(0, 0, 'a');
        board.inlet(0, 0);
        for (int i = 0; i < cells.length(); i++) {
            board.cell(15 - i % 16, 15 - i / 16, cells.charAt(i));
        }
        String what = bits + " bits in " + cells;
        Check.same(what + ", hole", board.hole(), MarbleBoard.NONE);
        Check.same(what, board.freeze(), bits <= 28 ? 1 : 0);
        Check.same(what + ", frozen", Check.isFrozen(board), bits <= 28);
    }

    /** The most cells that a frozen board can have moving: each keeps a value of its own in all calls. */
    private static void playWithTwentyEightToggles() {
        String[] rows = {".<............", "a.b...........", "<><><><><><><>", "<><><><><><><."};
        MarbleBoard board = Check.frozen(Check.columns(1), rows);
        Check.same("explore", board.explore(400), 2);
        Check.same("canReach", board.canReach(0, 1), 1);
        Check.same("jam", board.jam(3), 0);
        Check.looksLike("after the searches", board, rows);
        Check.same("drop", board.drop(0), 0);
        for (int y = 2; y < 4; y++) {
            for (int x = 0; x < 13; x++) {
                board.turn(x, y, (x + 1) % 2);
            }
        }
        Check.same("undo", board.undo(), true);
        Check.looksLike("after undo", board, rows);
    }

    /** A splitter needs 3 bits, however long its pattern is; and moving cells count that no marble comes to. */
    private static void freezeCountsCellsThatAreNotReached() {
        for (int length = 1; length <= 8; length++) {
            MarbleBoard board = Check.board("assssssss<", "........s.");
            board.inlet(0, 0);
            for (int x = 1; x <= 8; x++) {
                board.pattern(x, 0, length, 0);
            }
            board.pattern(8, 1, length, 0);
            Check.same("9 splitters of " + length + " and a toggle", board.freeze(), 1);
            board.cell(9, 1, ']');
            Check.same("and a latch", board.freeze(), 0);
            board.cell(9, 1, 'A');
            Check.same("and a lift instead", board.freeze(), 1);
        }
    }

    /** Promise 7: "There are no marbles then, in both cases." */
    private static void freezeTakesMarblesOff() {
        MarbleBoard board = Boards.full();
        Check.same("freeze with six", board.freeze(), 1);
        Check.same("marbles", board.marbles(0), 0);
        Check.same("held", board.marbles(1), 0);
        Check.refusesArgument("the first one", () -> board.marbles(2));
        Check.same("a run then", board.drop(1), 0);
        Check.same("roll then", board.roll(0), true);
        board.cell(0, 7, '|');
        Check.same("freeze with a hole", board.freeze(), 0);
        Check.same("marbles after 0", board.marbles(0), 0);
        Check.same("held after 0", board.marbles(1), 0);
    }

    /** Only with the answer 1 all counts are 0; "building changes none". */
    private static void freezeThatAnswersZeroChangesNoCount() {
        MarbleBoard board = Boards.played();
        int counted = board.count(0) + board.count(1) + board.count(2);
        Check.same("three drops", counted, 3);
        board.cell(4, 3, '|');
        board.freeze();
        Check.same("counts after 0", board.count(0) + board.count(1) + board.count(2), 3);
        board.cell(4, 3, 'a');
        board.freeze();
        Check.same("counts after 1", board.count(0) + board.count(1) + board.count(2), 0);
        Check.same("nothing to be undone", board.undo(), false);
    }

    /** Promise 7: "IllegalStateException: there is no inlet." */
    private static void freezeNeedsAnInlet() {
        for (int k = 0; k < 4; k++) {
            MarbleBoard board = Check.board("a");
            Check.refusesState("freeze without an inlet", board::freeze);
            board.inlet(k, 0);
            Check.same("inlet " + k + " is enough", board.freeze(), 1);
            board.drop(k);
            board.inlet(k, -1);
            Check.refusesState("freeze without inlet " + k, board::freeze);
            Check.same("the count stays", board.count(0), 1);
            Check.refusesState("not frozen", () -> board.tick(0));
        }
        MarbleBoard bad = Check.board("s".repeat(10));
        Check.refusesState("without an inlet, with 30 bits", bad::freeze);
    }

    /** Promise 8: "The least place of a hole" */
    private static void holeIsTheLeastPlace() {
        MarbleBoard board = Check.board("||||", "....", "....");
        for (int k = 3; k >= 0; k--) {
            board.inlet(k, k);
            Check.same("from inlet " + k + " on", board.hole(), 4 + k);
        }
        for (int x = 0; x < 4; x++) {
            board.cell(x, 1, x == 3 ? 'a' : '|');
            Check.same("mended up to column " + x, board.hole(), x == 3 ? 8 : 5 + x);
        }
        board.cell(3, 0, '.');
        Check.same("in row 0, the last column", board.hole(), 3);
        board.cell(0, 0, '/');
        Check.same("in the first cell", board.hole(), 0);
    }

    /** Promise 8: "by what the board is now" */
    private static void holeIsByWhatTheBoardIsNow() {
        MarbleBoard board = Boards.played();
        Check.same("of a frozen board", board.hole(), MarbleBoard.NONE);
        board.cell(0, 3, '.');
        Check.same("after cell", board.hole(), 15);
        board.row(3, Check.bytes("a...c", 0), 0);
        Check.same("after row", board.hole(), 17);
        board.pattern(1, 1, 1, 0);
        Check.same("after pattern", board.hole(), MarbleBoard.NONE);
        board.inlet(1, 4);
        Check.same("after inlet", board.hole(), 4);
        board.inlet(1, -1);
        Check.same("after inlet is gone", board.hole(), MarbleBoard.NONE);
        board.freeze();
        board.turn(3, 0, 1);
        board.turn(4, 2, 3);
        Check.same("after turn", board.hole(), MarbleBoard.NONE);
        board.board(2, 2);
        Check.same("after board", board.hole(), MarbleBoard.NONE);
        board.counter(8);
        Check.same("of a counter", board.hole(), MarbleBoard.NONE);
        board.table(3);
        Check.same("of a table", board.hole(), MarbleBoard.NONE);
    }

    /** Promise 8: "NONE when there is none" */
    private static void holeIsNone() {
        Check.same("of a new board", new MarbleBoard().hole(), MarbleBoard.NONE);
        Check.same("without inlets", Check.board("/.\\", "B..").hole(), MarbleBoard.NONE);
        Check.same("with 30 bits", Check.board("ssssssssss").hole(), MarbleBoard.NONE);
        Probe.changesNothing("hole() of a crowded board", Boards::crowded, b -> b.hole());
        Probe.changesNothing("hole() of a mixed board", Boards::mixed, b -> b.hole());
    }

    /** Promise 9: "The character of a cell as it is now." */
    private static void lookTellsTheCellAsItIsNow() {
        MarbleBoard board = Check.board("<>[]", "0123", "s./X");
        int[] values = {1, 0, 1, 0, 3, 2, 1, 0, 1};
        for (int i = 0; i < values.length; i++) {
            board.turn(i % 4, i / 4, values[i]);
        }
        Check.looksLike("all turned", board, "><][", "3210", "s./X");
        Probe.changesNothing("look", Boards::crowded, b -> b.look(4, 3));
    }

    /** Promise 9: "IllegalArgumentException: there is no such cell." */
    private static void lookRefusesCells() {
        for (MarbleBoard board : new MarbleBoard[] {new MarbleBoard(), Boards.mixed(), Boards.full()}) {
            checkBeyond("look", board, (x, y) -> board.look(x, y));
        }
    }

    private interface OfACell {
        void ask(int x, int y);
    }

    private static void checkBeyond(String what, MarbleBoard board, OfACell call) {
        String[] rows = Check.seen(board).split("\n");
        for (int x : Check.beside(0, rows[0].length() - 1)) {
            Check.refusesArgument(what + "(" + x + ", 0)", () -> call.ask(x, 0));
            Check.refusesArgument(what + "(" + x + ", last)", () -> call.ask(x, rows.length - 1));
        }
        for (int y : Check.beside(0, rows.length - 1)) {
            Check.refusesArgument(what + "(0, " + y + ")", () -> call.ask(0, y));
            Check.refusesArgument(what + "(last, " + y + ")", () -> call.ask(rows[0].length() - 1, y));
        }
        Check.refusesArgument(what + "(-1, -1)", () -> call.ask(-1, -1));
    }

    /** Promise 10: "The value of a moving cell." */
    private static void valueOfEachMovingCell() {
        MarbleBoard board = Check.board("<>[]", "0123", "s./X");
        int[] due = {0, 1, 0, 1, 0, 1, 2, 3, 0};
        for (int i = 0; i < due.length; i++) {
            Check.same("value of cell " + i, board.value(i % 4, i / 4), due[i]);
        }
        board.pattern(0, 2, 8, 0);
        board.turn(0, 2, 7);
        Check.same("the greatest position", board.value(0, 2), 7);
        Probe.changesNothing("value", Boards::crowded, b -> b.value(1, 1));
    }

    /** Promise 10: "IllegalArgumentException: there is no such cell" */
    private static void valueRefusesCells() {
        for (char c : "<]3s".toCharArray()) {
            MarbleBoard board = Check.board(("" + c).repeat(3), ("" + c).repeat(3));
            checkBeyond("value", board, (x, y) -> board.value(x, y));
        }
    }

    /** Promise 10: "or it is not moving" */
    private static void valueRefusesCellsThatDoNotMove() {
        MarbleBoard board = Check.board("./\\|XabcdABCD");
        for (int x = 0; x < 13; x++) {
            int column = x;
            Check.refusesArgument("value of " + board.look(x, 0), () -> board.value(column, 0));
        }
    }

    /** Promise 11: "A moving cell gets a value ..; what it was." */
    private static void turnTellsWhatItWas() {
        checkTurns("<", 0, 1, 2);
        checkTurns("]", 1, 1, 2);
        checkTurns("3", 3, 3, 2);
        checkTurns("s", 0, 1, 2);
        for (int length = 1; length <= 8; length++) {
            checkTurns("s", 0, length - 1, length);
        }
    }

    private static void checkTurns(String cell, int first, int most, int length) {
        MarbleBoard board = Check.board(cell);
        if (cell.equals("s")) {
            board.pattern(0, 0, length, 0);
        }
        Check.same("turn of " + cell + " to its greatest", board.turn(0, 0, most), first);
        Check.same("to the same again", board.turn(0, 0, most), most);
        Check.same("to its least", board.turn(0, 0, 0), most);
        Check.same("its value then", board.value(0, 0), 0);
    }

    /** Promise 11: "(that is no building)" */
    private static void turnIsNoBuilding() {
        MarbleBoard board = Boards.crowded();
        board.turn(1, 1, 4);
        board.turn(4, 2, 0);
        Check.same("frozen", Check.isFrozen(board), true);
        Check.same("marbles", board.marbles(0), 2);
        Check.same("held", board.marbles(1), 1);
        Probe.changesNothing("turn to the value it has", Boards::crowded, b -> b.turn(4, 2, 0));
        Probe.changesNothing("turn and back", Boards::crowded, FreezingEdgeTest::turnAndBack);
        MarbleBoard table = new MarbleBoard();
        table.table(1);
        table.turn(1, 0, 1);
        table.input(0, 0);
        Check.same("still a table", table.value(1, 0), 0);
    }

    private static void turnAndBack(MarbleBoard board) {
        int before = board.turn(1, 1, 4);
        board.turn(1, 1, before);
    }

    /** Promise 11: "IllegalArgumentException: there is no such cell" */
    private static void turnRefusesCells() {
        for (char c : "<]3s".toCharArray()) {
            MarbleBoard board = Check.board(("" + c).repeat(3), ("" + c).repeat(3));
            checkBeyond("turn", board, (x, y) -> board.turn(x, y, 0));
        }
    }

    /** Promise 11: "it is not moving" */
    private static void turnRefusesCellsThatDoNotMove() {
        MarbleBoard board = Check.board("./\\|XabcdABCD");
        for (int x = 0; x < 13; x++) {
            int column = x;
            for (int v : new int[] {0, 1, -1, Integer.MIN_VALUE, Integer.MAX_VALUE}) {
                Check.refusesArgument("turn of " + board.look(x, 0), () -> board.turn(column, 0, v));
            }
        }
        Check.looksLike("after refused turns", board, "./\\|XabcdABCD");
    }

    /** Promise 11: "or it cannot have this value" */
    private static void turnRefusesValues() {
        checkRefused("<", 1, 2);
        checkRefused(">", 1, 2);
        checkRefused("[", 1, 2);
        checkRefused("]", 1, 2);
        for (String gate : new String[] {"0", "1", "2", "3"}) {
            checkRefused(gate, 3, 2);
        }
        for (int length = 1; length <= 8; length++) {
            checkRefused("s", length - 1, length);
        }
    }

    private static void checkRefused(String cell, int most, int length) {
        MarbleBoard board = Check.board(cell);
        if (cell.equals("s")) {
            board.pattern(0, 0, length, 0);
        }
        int before = board.value(0, 0);
        for (int v : Check.beside(0, most)) {
            Check.refusesArgument("turn of " + cell + " to " + v, () -> board.turn(0, 0, v));
        }
        Check.same("its value then", board.value(0, 0), before);
        Check.same("its character then", board.look(0, 0), cell.charAt(0));
    }
}
