import java.util.function.Consumer;

/** Sentences of several promises that speak of the same thing, read beside each other; they stand above each test. */
public final class BesideTest {
    public static void main(String[] args) {
        builtAndFrozenAgain();
        refusedBuildingBetween();
        turnAndInputAreNoBuilding();
        countsOverBuildingAndFreezing();
        heldOverAllOtherCalls();
        undoBesideTurn();
        undoBesideInput();
        undoBesideMarblesAtOnce();
        undoBesideSearches();
        loopBesideTurn();
        stateOverBuildingAndFreezing();
        tableOverOtherCalls();
        Check.end();
    }

    /**
     * "each call that builds ends that, and takes all marbles off" beside promise 7: "1, and the board is frozen then, all
     * counts 0, and there is nothing to be undone" and "There are no marbles then, in both cases."
     */
    private static void builtAndFrozenAgain() {
        for (int call = 1; call < TermsEdgeTest.LAYOUT_CALLS; call++) {
            String what = "building call " + call;
            MarbleBoard board = Boards.crowded();
            TermsEdgeTest.build(board, call);
            Check.same(what + " ends freezing", Check.isFrozen(board), false);
            Check.same(what + " takes marbles off", board.marbles(0), 0);
            Check.same(what + " leaves three drops counted", counted(board), 3);
            Check.same(what + ", freeze", board.freeze(), 1);
            Check.same(what + ", marbles after freeze", board.marbles(0), 0);
            Check.same(what + ", counts after freeze", counted(board), 0);
            Check.same(what + ", undo after freeze", board.undo(), false);
            Check.same(what + ", the cell below the inlet is free", board.roll(0), true);
        }
    }

    private static int counted(MarbleBoard board) {
        return board.count(0) + board.count(1) + board.count(2) + board.count(3);
    }

    /** "each call that builds ends that" beside "a call that throws changes nothing": the drops before it can be undone. */
    private static void refusedBuildingBetween() {
        MarbleBoard board = Boards.played();
        String before = Check.seen(board);
        board.drop(0);
        Check.refusesArgument("board", () -> board.board(5, 17));
        Check.refusesArgument("row", () -> board.row(0, Check.bytes("||||?", 0), 0));
        Check.refusesArgument("cell", () -> board.cell(5, 0, '|'));
        Check.refusesArgument("pattern", () -> board.pattern(1, 1, 9, 0));
        Check.refusesArgument("inlet", () -> board.inlet(0, 5));
        Check.refusesArgument("counter", () -> board.counter(0));
        Check.refusesArgument("table", () -> board.table(0));
        Check.same("undo behind them", board.undo(), true);
        Check.same("the cells before the drop", Check.seen(board), before);
        Check.same("the counts before the drop", counted(board), 3);
    }

    /** "that is no building" in promise 11, and promises 22 and 24, which do not say "Builds" either. */
    private static void turnAndInputAreNoBuilding() {
        isNoBuilding("turn", b -> b.turn(3, 0, 1));
        isNoBuilding("tell", b -> b.tell(0, 2));
        isNoBuilding("input", b -> b.input(0, 1));
        MarbleBoard open = Boards.mixed();
        open.turn(3, 0, 1);
        Check.same("turn does not freeze either", Check.isFrozen(open), false);
        open.freeze();
        Check.same("freeze keeps what was turned", open.value(3, 0), 1);
    }

    private static void isNoBuilding(String what, Consumer<MarbleBoard> call) {
        MarbleBoard board = new MarbleBoard();
        board.table(2);
        board.drop(0);
        board.roll(0);
        board.tick(2);
        board.roll(0);
        call.accept(board);
        Check.same(what + ": frozen", Check.isFrozen(board), true);
        Check.same(what + ": marbles", board.marbles(0), 2);
        Check.same(what + ": first place", board.marbles(2), 15);
        Check.same(what + ": second place", board.marbles(3), 3);
        Check.same(what + ": gone later", board.tick(64), 2);
        Check.same(what + ": counts", counted(board), 3);
        Check.same(what + ": the drop can be undone", board.undo(), true);
        board.input(1, 1);
        Check.same(what + ": still a table", board.value(1, 3), 1);
    }

    /** "building changes none" in promise 14 beside promise 7: "1, and the board is frozen then, all counts 0" */
    private static void countsOverBuildingAndFreezing() {
        MarbleBoard board = Boards.played();
        board.board(3, 3);
        Check.same("after board", counted(board), 3);
        Check.refusesState("freeze without an inlet", board::freeze);
        Check.same("after freeze that threw", counted(board), 3);
        board.inlet(1, 1);
        Check.same("freeze with a hole", board.freeze(), 0);
        Check.same("after freeze that answered 0", counted(board), 3);
        board.cell(1, 0, 'd');
        Check.same("freeze without a hole", board.freeze(), 1);
        Check.same("after freeze that answered 1", counted(board), 0);
        board.roll(1);
        board.tick(1);
        board.drop(1);
        Check.same("counted again", board.count(3), 2);
        Check.refusesArgument("counter", () -> board.counter(9));
        Check.same("after counter that threw", board.count(3), 2);
        board.counter(2);
        Check.same("counter freezes", counted(board), 0);
        board.drop(0);
        board.table(1);
        Check.same("table freezes", counted(board), 0);
    }

    /** "0 when there was none since a call that built, or freeze()" in promise 17: no other call takes it back. */
    private static void heldOverAllOtherCalls() {
        MarbleBoard board = Boards.crowded();
        board.tell(0, 3);
        board.turn(1, 1, 0);
        board.hole();
        board.look(0, 0);
        board.value(3, 0);
        board.count(0);
        board.explore(400);
        board.canReach(0, 0);
        board.roll(0);
        board.tick(0);
        Check.refusesState("drop", () -> board.drop(0));
        Check.refusesState("undo", board::undo);
        Check.refusesState("jam", () -> board.jam(1));
        Check.refusesArgument("cell", () -> board.cell(0, 0, '?'));
        Check.same("held in the latest tick", board.marbles(1), 1);
        board.freeze();
        Check.same("held since freeze", board.marbles(1), 0);
    }

    /** "The state becomes that before the latest drop()" beside promise 11: "A moving cell gets a value" */
    private static void undoBesideTurn() {
        MarbleBoard board = new MarbleBoard();
        board.counter(3);
        board.drop(0);
        board.turn(2, 1, 1);
        board.turn(3, 2, 1);
        board.drop(0);
        Check.same("the full counter ends in b", board.count(1), 1);
        board.turn(1, 0, 1);
        board.turn(3, 2, 1);
        Check.same("undo of the second", board.undo(), true);
        Check.same("the leans turned to before it", leans(board), 0b111);
        Check.same("its count", board.count(1), 0);
        board.turn(1, 0, 0);
        Check.same("undo of the first", board.undo(), true);
        Check.same("the leans before all", leans(board), 0);
        Check.same("no more", board.undo(), false);
    }

    private static int leans(MarbleBoard board) {
        return board.value(1, 0) | board.value(2, 1) << 1 | board.value(3, 2) << 2;
    }

    /** "The state becomes that before the latest drop()" beside promise 24: "All latches of input i .. lean to v." */
    private static void undoBesideInput() {
        MarbleBoard board = new MarbleBoard();
        for (int r = 0; r < 4; r++) {
            board.tell(r, r);
        }
        board.table(2);
        Check.same("row 0", board.drop(0), 0);
        board.input(1, 1);
        Check.same("row 1", board.drop(0), 1);
        board.input(0, 1);
        Check.same("row 3", board.drop(0), 3);
        board.input(0, 0);
        board.input(1, 0);
        int[] rows = {3, 1, 0};
        for (int r : rows) {
            Check.same("undo of the drop to row " + r, board.undo(), true);
            Check.same("the lean of input 0", board.value(3, 0), r >> 1);
            Check.same("the leans of input 1", 2 * board.value(1, 3) + board.value(5, 3), 3 * (r & 1));
            Check.same("the count of row " + r, board.count(r), 0);
        }
        Check.same("no more", board.undo(), false);
    }

    /** The same beside promise 16, as marbles at once change the state too; but their counts stay. */
    private static void undoBesideMarblesAtOnce() {
        MarbleBoard board = new MarbleBoard();
        board.counter(3);
        board.drop(0);
        board.roll(0);
        board.tick(64);
        Check.same("two have passed", leans(board), 2);
        board.drop(0);
        board.roll(0);
        board.tick(64);
        Check.same("four have passed", leans(board), 4);
        Check.same("undo of the second drop", board.undo(), true);
        Check.same("the state before it", leans(board), 2);
        Check.same("the count without it", board.count(0), 3);
        Check.same("undo of the first drop", board.undo(), true);
        Check.same("the state before all", leans(board), 0);
        Check.same("the count of the marbles at once", board.count(0), 2);
    }

    /** "of the latest 32 since the board was frozen": what searches run are no drops, and change no count. */
    private static void undoBesideSearches() {
        MarbleBoard board = new MarbleBoard();
        board.counter(3);
        board.drop(0);
        for (int i = 0; i < 5; i++) {
            Check.same("explore", board.explore(8), 8);
            Check.same("canReach", board.canReach(0, 1), 1);
            Check.same("jam", board.jam(1), 0);
        }
        Check.same("the count", counted(board), 1);
        Check.same("the state", leans(board), 1);
        Check.same("undo", board.undo(), true);
        Check.same("no more", board.undo(), false);
    }

    /** "and the state stays as it was before it" beside promise 11: a LOOP keeps what was turned, and undo passes it over. */
    private static void loopBesideTurn() {
        MarbleBoard board = Check.frozen(Check.columns(1), ".<.", "a.|", "..0", "..b");
        Check.same("to the left", board.drop(0), 0);
        Check.same("to the shut gate", board.drop(0), MarbleBoard.LOOP);
        Check.same("the toggle as before it", board.value(1, 0), 1);
        Check.same("open the gate", board.turn(2, 2, 2), 0);
        Check.same("through the gate", board.drop(0), 1);
        board.turn(2, 2, 0);
        board.turn(1, 0, 1);
        Check.same("to the shut gate again", board.drop(0), MarbleBoard.LOOP);
        Check.same("undo of the drop through the gate", board.undo(), true);
        Check.same("its openings before", board.value(2, 2), 2);
        Check.same("the toggle before", board.value(1, 0), 1);
        Check.same("undo of the drop to the left", board.undo(), true);
        Check.same("the gate as it was then", board.value(2, 2), 0);
        Check.same("the toggle as it was then", board.value(1, 0), 0);
    }

    /** "THE STATE is the values of all moving cells": neither building elsewhere nor freeze() changes one. */
    private static void stateOverBuildingAndFreezing() {
        MarbleBoard board = Boards.played();
        String before = Check.seen(board);
        int position = board.value(1, 1);
        board.inlet(1, 3);
        board.cell(3, 3, '.');
        board.freeze();
        board.freeze();
        Check.same("the cells", Check.seen(board), before);
        Check.same("the position", board.value(1, 1), position);
        board.row(2, Check.bytes("|1[.0", 0), 0);
        Check.same("the position beside a row that was built", board.value(1, 1), position);
        board.pattern(1, 1, 5, 0b01101);
        Check.same("only pattern puts it to 0", board.value(1, 1), 0);
    }

    /** Promise 22: "Row r of the table gets a value": it stays over all building, and only the next table shows it. */
    private static void tableOverOtherCalls() {
        MarbleBoard board = new MarbleBoard();
        board.tell(1, 3);
        board.board(16, 16);
        board.counter(8);
        board.tell(0, 2);
        board.drop(0);
        board.undo();
        board.table(1);
        Check.looksLike("the first table", board, ".[.", "c.d");
        board.tell(0, 1);
        board.freeze();
        Check.looksLike("told and frozen again", board, ".[.", "c.d");
        board.table(1);
        Check.looksLike("the second table", board, ".[.", "b.d");
    }
}
