/** Boards that several tests share, each with a number that is known exactly. */
final class Boards {
    private static final int TOGGLES = 6;
    private static final int LIFT_ROW = 9;
    private static final int LAP = LIFT_ROW + 1;

    private Boards() {
    }

    /** Its run from inlet 0 moves on so many times, 7 .. 646, the last time out of outlet b. */
    static MarbleBoard withRunOf(int moves) {
        return lifted(moves, "b");
    }

    /** The same with a shut gate instead of the outlet, so that the run moves on one time less. */
    static MarbleBoard withRunToAShutGate(int moves) {
        return lifted(moves, "0b");
    }

    /** A counter of toggles that starts so high that it is full after the laps that the moves leave for. */
    private static MarbleBoard lifted(int moves, String end) {
        int laps = (moves - TOGGLES - 1) / LAP;
        int start = (1 << TOGGLES) - 1 - laps;
        MarbleBoard board = new MarbleBoard();
        board.board(TOGGLES + 2, 16);
        for (int i = 0; i < TOGGLES; i++) {
            board.cell(i + 1, i, (start >> i & 1) == 0 ? '<' : '>');
            layColumn(board, i, i + 1, LIFT_ROW, "A");
        }
        layColumn(board, TOGGLES + 1, TOGGLES, moves - LAP * laps - 1, end);
        board.inlet(0, 1);
        Check.same("a board with a run of " + moves + " can be frozen", board.freeze(), 1);
        return board;
    }

    private static void layColumn(MarbleBoard board, int x, int from, int endRow, String end) {
        for (int y = from; y < endRow; y++) {
            board.cell(x, y, '|');
        }
        for (int i = 0; i < end.length(); i++) {
            board.cell(x, endRow + i, end.charAt(i));
        }
    }

    /** Four splitters, each below an inlet of its own: 8 * 5 * 5 * 2 = 400 states. Only from inlet 3 one comes to c. */
    static MarbleBoard withFourHundredStates() {
        MarbleBoard board = Check.board(".s..s..s..s.", "a.ba.ba.ba.c");
        int[] lengths = {8, 5, 5, 2};
        for (int k = 0; k < 4; k++) {
            board.inlet(k, 3 * k + 1);
            board.pattern(3 * k + 1, 0, lengths[k], 0b10110);
        }
        Check.same("four splitters can be frozen", board.freeze(), 1);
        return board;
    }

    /** The same splitters in a chain: 400 states in a circle; with the latch leaning left the present one is none of them. */
    static MarbleBoard withCircleOfStates(int latch) {
        MarbleBoard board = Check.board("\\.....", ".[....", ".s....", "a.s...", ".a.s..", "..a.s.", "...a.b");
        board.inlet(0, 0);
        int[] lengths = {8, 5, 5, 2};
        for (int i = 0; i < 4; i++) {
            board.pattern(i + 1, i + 2, lengths[i], 1 << lengths[i] - 1);
        }
        board.turn(1, 1, latch);
        Check.same("a chain can be frozen", board.freeze(), 1);
        return board;
    }

    /** Not frozen, with each kind of moving cell, inlets 0 and 2, and a splitter in the midst of its pattern. */
    static MarbleBoard mixed() {
        MarbleBoard board = Check.board("\\..<.", ".sX.|", "|1[.0", "a.b.c");
        board.inlet(0, 0);
        board.inlet(2, 3);
        board.pattern(1, 1, 5, 0b01101);
        board.turn(1, 1, 2);
        return board;
    }

    /** The mixed board, frozen, with counts and with drops to be undone. */
    static MarbleBoard played() {
        MarbleBoard board = mixed();
        Check.same("the mixed board can be frozen", board.freeze(), 1);
        board.drop(0);
        board.drop(0);
        board.drop(2);
        return board;
    }

    /** The played board with one marble held at its shut gate, and one more that came behind it. */
    static MarbleBoard crowded() {
        MarbleBoard board = played();
        board.turn(3, 0, 1);
        board.roll(2);
        board.tick(3);
        board.roll(0);
        Check.same("one is held on the crowded board", board.marbles(1), 1);
        return board;
    }

    /** Six marbles in a column with a shut gate at its end, the last one still in row 1; inlet 1 is in a column of its own. */
    static MarbleBoard full() {
        MarbleBoard board = Check.frozen(Check.columns(0, 1), "||", "|a", "|.", "|.", "|.", "|.", "0.", "a.");
        for (int i = 0; i < 6; i++) {
            Check.same("roll " + i + " of the full board", board.roll(0), true);
            board.tick(6 - i);
        }
        return board;
    }
}
