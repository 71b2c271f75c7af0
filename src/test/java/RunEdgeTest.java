/** The boundary cases of promises 12 to 14, a test for each sentence, which stands above it. */
public final class RunEdgeTest {
    public static void main(String[] args) {
        dropCountsItsOutlet();
        dropIsALoop();
        dropNeedsAFrozenBoard();
        dropNeedsABoardWithoutMarbles();
        dropRefusesInlets();
        undoOfThirtyOneToThirtyThree();
        undoOfManyMore();
        undoneDropsMakeRoom();
        undoTakesNoLoop();
        undoTakesEachDropOnce();
        undoOnlySinceFrozen();
        undoPutsTheStateBack();
        undoMakesTheCountOneLess();
        undoOfNone();
        undoNeedsAFrozenBoard();
        undoNeedsABoardWithoutMarbles();
        countOfRunsAndOfMarblesAtOnce();
        countStaysWhenBuilding();
        countRefusesOutlets();
        Check.end();
    }

    /** Promise 12: "the outlet at which it ended, whose count is 1 more then" */
    private static void dropCountsItsOutlet() {
        MarbleBoard board = Check.frozen(Check.columns(0, 1, 2, 3), "abcd");
        for (int k = 0; k < 4; k++) {
            Check.same("outlet " + k, board.drop(k), k);
            for (int o = 0; o < 4; o++) {
                Check.same("count " + o + " after outlet " + k, board.count(o), o <= k ? 1 : 0);
            }
        }
    }

    /** Promise 12: "or LOOP" */
    private static void dropIsALoop() {
        MarbleBoard board = Check.frozen(Check.columns(0, 1, 2, 3), "0Bcd", "a...");
        Check.same("at a shut gate", board.drop(0), MarbleBoard.LOOP);
        Check.same("on a lift to itself", board.drop(1), MarbleBoard.LOOP);
        for (int o = 0; o < 4; o++) {
            Check.same("count " + o, board.count(o), 0);
        }
        Check.same("no marble is left", board.marbles(0), 0);
        Check.same("none is held", board.marbles(1), 0);
        Check.same("another inlet then", board.drop(2), 2);
    }

    /** Promise 12: "IllegalStateException: the board is not frozen" */
    private static void dropNeedsAFrozenBoard() {
        for (int k : new int[] {0, 1, -1, 4, Integer.MIN_VALUE, Integer.MAX_VALUE}) {
            MarbleBoard board = Boards.mixed();
            Check.refusesState("drop(" + k + ") before freeze", () -> board.drop(k));
            Check.same("the board can be frozen", board.freeze(), 1);
            Check.same("nothing is counted", board.count(0) + board.count(1) + board.count(2), 0);
            board.cell(3, 3, '|');
            Check.refusesState("drop(" + k + ") after building", () -> board.drop(k));
        }
    }

    /** Promise 12: "or has marbles" */
    private static void dropNeedsABoardWithoutMarbles() {
        for (int k : new int[] {0, 1, -1, 4, Integer.MIN_VALUE, Integer.MAX_VALUE}) {
            MarbleBoard board = Check.frozen(Check.columns(0), "|", "a");
            board.roll(0);
            Check.refusesState("drop(" + k + ") with a marble", () -> board.drop(k));
            board.tick(1);
            Check.refusesState("drop(" + k + ") with a marble in its outlet", () -> board.drop(k));
            board.tick(1);
            Check.same("drop when it is gone", board.drop(0), 0);
        }
    }

    /** Promise 12: "IllegalArgumentException: there is no inlet k" */
    private static void dropRefusesInlets() {
        for (int there = 0; there < 4; there++) {
            MarbleBoard board = Check.board("a");
            board.inlet(there, 0);
            board.freeze();
            for (int k : new int[] {0, 1, 2, 3, -1, 4, Integer.MIN_VALUE, Integer.MAX_VALUE}) {
                long due = k == there ? 0 : Check.ARGUMENT;
                Check.same("drop(" + k + ") with inlet " + there, Check.answer(() -> board.drop(k)), due);
            }
            Check.same("only one is counted", board.count(0), 1);
        }
    }

    private static MarbleBoard dropped(int times) {
        MarbleBoard board = new MarbleBoard();
        board.counter(8);
        drop(board, times);
        return board;
    }

    private static void drop(MarbleBoard board, int times) {
        for (int i = 0; i < times; i++) {
            board.drop(0);
        }
    }

    private static void undo(String what, MarbleBoard board, int times) {
        for (int i = 0; i < times; i++) {
            Check.same(what + ", undo " + i, board.undo(), true);
        }
        Check.same(what + ", no undo " + times, board.undo(), false);
    }

    private static int counted(MarbleBoard board) {
        int counted = 0;
        for (int i = 0; i < 8; i++) {
            counted |= board.value(i + 1, i) << i;
        }
        return counted;
    }

    /** Promise 13: "of the latest 32" */
    private static void undoOfThirtyOneToThirtyThree() {
        for (int times : new int[] {1, 31, 32, 33, 34}) {
            String what = times + " drops";
            MarbleBoard board = dropped(times);
            undo(what, board, Math.min(times, 32));
            Check.same(what + ", state", counted(board), Math.max(0, times - 32));
            Check.same(what + ", count", board.count(0), Math.max(0, times - 32));
        }
    }

    /** Promise 13: "of the latest 32": more than twice as many, and again after they were undone. */
    private static void undoOfManyMore() {
        MarbleBoard board = dropped(100);
        undo("100 drops", board, 32);
        Check.same("state after 100 drops", counted(board), 68);
        drop(board, 5);
        undo("5 more", board, 5);
        Check.same("state after 5 more", counted(board), 68);
        drop(board, 33);
        undo("33 more", board, 32);
        Check.same("state after 33 more", counted(board), 69);
    }

    /** Promise 13: "is not undone, of the latest 32": one that is undone is no more among the 32. */
    private static void undoneDropsMakeRoom() {
        MarbleBoard board = dropped(40);
        for (int i = 0; i < 10; i++) {
            Check.same("undo " + i + " of 10", board.undo(), true);
        }
        drop(board, 10);
        undo("40 drops, 10 undone, 10 more", board, 32);
        Check.same("state after them", counted(board), 8);
        Check.same("count after them", board.count(0), 8);
    }

    /** Promise 13: "the latest drop() that was no LOOP" */
    private static void undoTakesNoLoop() {
        MarbleBoard board = Check.frozen(Check.columns(0, 1, 3), "30.<.", "aab.c");
        Check.same("through the gate", board.drop(0), 0);
        for (int i = 0; i < 33; i++) {
            Check.same("a LOOP", board.drop(1), MarbleBoard.LOOP);
        }
        Check.same("undo behind 33 LOOPs", board.undo(), true);
        Check.same("the opening is back", board.value(0, 0), 3);
        Check.same("no more", board.undo(), false);
        for (int i = 0; i < 32; i++) {
            board.drop(2);
            board.drop(1);
        }
        undo("32 with LOOPs between", board, 32);
        Check.same("the toggle is back", board.value(3, 0), 0);
    }

    /** Promise 13: "and is not undone" */
    private static void undoTakesEachDropOnce() {
        MarbleBoard board = dropped(3);
        Check.same("undo of the third", board.undo(), true);
        Check.same("two are left", counted(board), 2);
        board.drop(0);
        board.drop(0);
        Check.same("four then", counted(board), 4);
        for (int left = 3; left >= 0; left--) {
            Check.same("undo to " + left, board.undo(), true);
            Check.same("state " + left, counted(board), left);
        }
        Check.same("no more", board.undo(), false);
    }

    /** Promise 13: "since the board was frozen" */
    private static void undoOnlySinceFrozen() {
        MarbleBoard board = dropped(40);
        board.freeze();
        Check.same("undo after freeze", board.undo(), false);
        drop(board, 2);
        undo("two since then", board, 2);
        Check.same("state at freeze", counted(board), 40);
        drop(board, 2);
        board.cell(9, 0, '|');
        board.freeze();
        Check.same("undo after building and freeze", board.undo(), false);
        drop(board, 1);
        board.counter(8);
        Check.same("undo after counter", board.undo(), false);
        drop(board, 1);
        board.table(1);
        Check.same("undo after table", board.undo(), false);
    }

    /** Promise 13: "The state becomes that before the latest drop()" */
    private static void undoPutsTheStateBack() {
        MarbleBoard board = Boards.played();
        String before = Check.seen(board);
        int position = board.value(1, 1);
        board.drop(0);
        int[][] turns = {{3, 0, 1}, {1, 1, 4}, {1, 2, 0}, {2, 2, 0}, {4, 2, 3}};
        for (int[] turn : turns) {
            board.turn(turn[0], turn[1], turn[2]);
        }
        Check.same("undo", board.undo(), true);
        Check.same("the cells before the drop", Check.seen(board), before);
        Check.same("the position before the drop", board.value(1, 1), position);
        undoPutsTwentyEightBitsBack();
    }

    /** The greatest values of as many bits as there can be. */
    private static void undoPutsTwentyEightBitsBack() {
        MarbleBoard board = Check.board("a333333333sss<");
        board.inlet(0, 0);
        for (int x = 10; x < 13; x++) {
            board.pattern(x, 0, 8, 0);
            board.turn(x, 0, 7);
        }
        board.turn(13, 0, 1);
        Check.same("28 bits", board.freeze(), 1);
        board.drop(0);
        for (int x = 1; x < 14; x++) {
            board.turn(x, 0, 0);
        }
        Check.same("undo of 28 bits", board.undo(), true);
        for (int x = 1; x < 14; x++) {
            Check.same("value in column " + x, board.value(x, 0), x < 10 ? 3 : x < 13 ? 7 : 1);
        }
    }

    /** Promise 13: "and the count of its outlet 1 less: true" */
    private static void undoMakesTheCountOneLess() {
        MarbleBoard board = Check.frozen(Check.columns(0, 1, 2, 3), "abcd");
        for (int k = 0; k < 4; k++) {
            board.drop(k);
            board.drop(k);
        }
        for (int i = 7; i >= 0; i--) {
            Check.same("undo " + i, board.undo(), true);
            for (int o = 0; o < 4; o++) {
                Check.same("count " + o + " after undo " + i, board.count(o), Math.max(0, Math.min(2, i - 2 * o)));
            }
        }
    }

    /** Promise 13: "false when there is none" */
    private static void undoOfNone() {
        MarbleBoard board = Boards.mixed();
        board.freeze();
        Check.same("nothing was dropped", board.undo(), false);
        board.turn(3, 0, 1);
        Check.same("a turn is no drop", board.undo(), false);
        Check.same("it is turned still", board.value(3, 0), 1);
        board.roll(0);
        board.tick(64);
        Check.same("a marble at once is no drop", board.undo(), false);
        Check.same("the position behind it", board.value(1, 1), 3);
        Probe.changesNothing("undo() of none", RunEdgeTest::allUndone, b -> b.undo());
    }

    private static MarbleBoard allUndone() {
        MarbleBoard board = Boards.played();
        for (int i = 0; i < 3; i++) {
            Check.same("undo " + i + " of the played board", board.undo(), true);
        }
        board.turn(3, 0, 1);
        return board;
    }

    /** Promise 13: "IllegalStateException: the board is not frozen" */
    private static void undoNeedsAFrozenBoard() {
        for (int call = 0; call < TermsEdgeTest.LAYOUT_CALLS; call++) {
            MarbleBoard board = Boards.played();
            TermsEdgeTest.build(board, call);
            String before = Check.seen(board);
            Check.refusesState("undo after building call " + call, board::undo);
            Check.same("the cells after it", Check.seen(board), before);
            Check.same("the counts after it", board.count(0) + board.count(1) + board.count(2), 3);
        }
    }

    /** Promise 13: "or has marbles" */
    private static void undoNeedsABoardWithoutMarbles() {
        MarbleBoard board = Check.frozen(Check.columns(0), "3", "a");
        board.drop(0);
        board.roll(0);
        Check.refusesState("undo with a marble", board::undo);
        board.tick(1);
        Check.refusesState("undo with a marble in its outlet", board::undo);
        Check.same("the openings", board.value(0, 0), 1);
        board.tick(1);
        Check.same("undo when it is gone", board.undo(), true);
        Check.same("the openings before the drop", board.value(0, 0), 3);
        Check.same("the count of the marble at once", board.count(0), 1);
    }

    /** Promise 14: "The count of an outlet, of runs and of marbles at once" */
    private static void countOfRunsAndOfMarblesAtOnce() {
        MarbleBoard board = Check.frozen(Check.columns(0, 3), "a..d");
        for (int i = 1; i <= 40; i++) {
            board.drop(1);
            board.roll(1);
            board.tick(1);
            Check.same("count after " + i + " of both", board.count(3), 2 * i);
        }
        Check.same("the other count", board.count(0), 0);
        Probe.changesNothing("count", Boards::crowded, b -> b.count(3));
    }

    /** Promise 14: "(building changes none)" */
    private static void countStaysWhenBuilding() {
        for (int call = 0; call < TermsEdgeTest.LAYOUT_CALLS; call++) {
            MarbleBoard board = Boards.played();
            int[] before = new int[4];
            for (int o = 0; o < 4; o++) {
                before[o] = board.count(o);
            }
            TermsEdgeTest.build(board, call);
            for (int o = 0; o < 4; o++) {
                Check.same("count " + o + " after building call " + call, board.count(o), before[o]);
            }
        }
    }

    /** Promise 14: "IllegalArgumentException: o is not 0 .. 3." */
    private static void countRefusesOutlets() {
        for (MarbleBoard board : new MarbleBoard[] {new MarbleBoard(), Boards.played(), Boards.crowded()}) {
            for (int o : Check.beside(0, 3)) {
                Check.refusesArgument("count(" + o + ")", () -> board.count(o));
            }
        }
    }
}
