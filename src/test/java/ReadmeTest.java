/** The examples of README.md, so that they stay true. */
public final class ReadmeTest {
    public static void main(String[] args) {
        oneAtATime();
        atOnce();
        laidOut();
        Check.end();
    }

    private static void oneAtATime() {
        MarbleBoard board = new MarbleBoard();
        board.board(3, 2);
        board.cell(1, 0, '<');
        board.cell(0, 1, 'a');
        board.cell(2, 1, 'b');
        board.inlet(0, 1);
        Check.same("freeze", board.freeze(), 1);
        Check.same("first drop", board.drop(0), 0);
        Check.same("second drop", board.drop(0), 1);
        Check.same("undo", board.undo(), true);
        Check.same("explore", board.explore(400), 2);
        Check.same("canReach", board.canReach(0, 1), 1);
    }

    private static void atOnce() {
        MarbleBoard board = new MarbleBoard();
        board.board(1, 3);
        board.cell(0, 0, '|');
        board.cell(0, 1, '0');
        board.cell(0, 2, 'a');
        board.inlet(0, 0);
        Check.same("freeze", board.freeze(), 1);
        Check.same("jam", board.jam(1), 1);
        Check.same("first roll", board.roll(0), true);
        Check.same("first ticks", board.tick(2), 0);
        Check.same("held", board.marbles(1), 1);
        Check.same("its place", board.marbles(2), 1);
        Check.same("turn", board.turn(0, 1, 1), 0);
        Check.same("next ticks", board.tick(2), 1);
        Check.same("count", board.count(0), 1);
    }

    private static void laidOut() {
        MarbleBoard board = new MarbleBoard();
        board.tell(3, 1);
        board.table(2);
        Check.same("row 0", board.drop(0), 0);
        board.input(0, 1);
        board.input(1, 1);
        Check.same("row 3", board.drop(0), 1);
    }
}
