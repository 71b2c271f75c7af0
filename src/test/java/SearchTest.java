/** Promises 18 to 20: explore, canReach and jam. */
public final class SearchTest {
    public static void main(String[] args) {
        exploreCountsStates();
        exploreCountsFromThePresentState();
        exploreWithLoops();
        exploreChangesNothing();
        exploreRefuses();
        canReachByStates();
        canReachRefuses();
        jamAtAShutGate();
        jamOfTwoMarbles();
        jamNeedsAllHeld();
        jamNeedsAMarble();
        jamAmongManyAndFew();
        jamInADeepColumn();
        jamChangesNothing();
        jamRefuses();
        Check.end();
    }

    private static void exploreCountsStates() {
        MarbleBoard board = new MarbleBoard();
        for (int bits = 1; bits <= 8; bits++) {
            board.counter(bits);
            int states = 1 << bits;
            Check.same("a counter of " + bits, board.explore(400), states);
            Check.same("with its own limit", board.explore(states), states);
            Check.same("with a limit below", board.explore(states - 1), MarbleBoard.MANY);
        }
        Check.same("no moving cells", Check.frozen(Check.columns(0), "a").explore(1), 1);
        MarbleBoard unreached = Check.frozen(Check.columns(0), "a<", "..");
        Check.same("a toggle that is not reached", unreached.explore(1), 1);
    }

    private static void exploreCountsFromThePresentState() {
        MarbleBoard board = Check.frozen(Check.columns(0), "3", "a");
        for (int openings = 3; openings >= 0; openings--) {
            Check.same("a gate with " + openings, board.explore(400), openings + 1);
            board.drop(0);
        }
        MarbleBoard both = Check.frozen(Check.columns(1, 4), ".<..<.", "a.bc.d");
        Check.same("two toggles", both.explore(400), 4);
        both.inlet(1, -1);
        both.freeze();
        Check.same("one without an inlet", both.explore(400), 2);
    }

    private static void exploreWithLoops() {
        MarbleBoard board = Check.frozen(Check.columns(1), ".<.", "|.|", "0.0", "a.b");
        Check.same("LOOP at once", board.explore(400), 1);
        board.turn(0, 2, 1);
        board.turn(2, 2, 2);
        Check.same("then two runs", board.explore(400), 3);
        MarbleBoard lifts = Check.frozen(Check.columns(1), ".<.", "A.A");
        Check.same("LOOP by lifts", lifts.explore(400), 1);
        Check.same("a run of 301 moves", Boards.withRunOf(301).explore(400), 1);
        // Behind its outlet it is empty, and the next run would take 64 laps of 10 moves.
        Check.same("a run of 300 moves", Boards.withRunOf(300).explore(400), 2);
    }

    private static void exploreChangesNothing() {
        MarbleBoard board = Check.frozen(Check.columns(1, 4), ".<..>.", "a.bc.|", ".....d");
        board.drop(0);
        board.roll(1);
        board.tick(1);
        String before = Check.seen(board);
        Check.same("explore with a marble", board.explore(400), 4);
        Check.same("explore beyond its limit", board.explore(1), MarbleBoard.MANY);
        Check.same("canReach with a marble", board.canReach(1, 3), 1);
        Check.same("the board after a search", Check.seen(board), before);
        Check.same("the counts after a search", board.count(0) + 10 * board.count(1) + 100 * board.count(3), 1);
        Check.same("the marble after a search", board.marbles(2), 11);
        Check.same("marbles after a search", board.marbles(0), 1);
        board.tick(9);
        Check.same("undo after a search", board.undo(), true);
        Check.same("only one to be undone", board.undo(), false);
    }

    private static void exploreRefuses() {
        MarbleBoard board = Check.board("a");
        Check.refusesState("explore before freeze", () -> board.explore(1));
        Check.refusesState("explore before freeze with a bad limit", () -> board.explore(0));
        board.inlet(0, 0);
        board.freeze();
        for (int limit : new int[] {0, -1, 401, Integer.MIN_VALUE, Integer.MAX_VALUE}) {
            Check.refusesArgument("explore(" + limit + ")", () -> board.explore(limit));
        }
        Check.same("explore(400)", board.explore(400), 1);
    }

    private static void canReachByStates() {
        MarbleBoard board = Check.frozen(Check.columns(0, 1, 2), "\\|/", ".[.", "abc");
        Check.same("straight to the left", board.canReach(1, 0), 1);
        Check.same("straight to the right", board.canReach(1, 2), 1);
        Check.same("straight to the middle", board.canReach(1, 1), 0);
        Check.same("to the middle going right", board.canReach(0, 1), 1);
        Check.same("to the middle going left", board.canReach(2, 1), 1);
        Check.same("to no such outlet", board.canReach(2, 3), 0);
        board.inlet(0, -1);
        board.freeze();
        Check.same("nothing turns the latch", board.canReach(1, 2), 0);
        board.turn(1, 1, 1);
        Check.same("it leans right", board.canReach(1, 2), 1);
        Check.same("and can be turned back", board.canReach(1, 0), 1);
        MarbleBoard counter = new MarbleBoard();
        counter.counter(8);
        Check.same("only the last state sends there", counter.canReach(0, 1), 1);
        MarbleBoard gate = Check.frozen(Check.columns(0), "0", "a");
        Check.same("a LOOP sends nowhere", gate.canReach(0, 0), 0);
        MarbleBoard two = Check.frozen(Check.columns(1, 0), "c<.", "a.d");
        Check.same("the second inlet's own", two.canReach(1, 2), 1);
        Check.same("not the first one's", two.canReach(1, 3), 0);
        Check.same("the first one's", two.canReach(0, 3), 1);
        Check.same("not the second one's", two.canReach(0, 2), 0);
    }

    private static void canReachRefuses() {
        MarbleBoard board = Check.board("a");
        board.inlet(1, 0);
        Check.refusesState("canReach before freeze", () -> board.canReach(1, 0));
        Check.refusesState("canReach before freeze, bad inlet", () -> board.canReach(0, 4));
        board.freeze();
        int[][] bad = {{0, 0}, {-1, 0}, {4, 0}, {1, -1}, {1, 4}, {1, 32}, {Integer.MAX_VALUE, 0}, {1, Integer.MIN_VALUE}};
        for (int[] pair : bad) {
            Check.refusesArgument("canReach(" + pair[0] + ", " + pair[1] + ")", () -> board.canReach(pair[0], pair[1]));
        }
        Check.same("canReach(1, 0)", board.canReach(1, 0), 1);
    }

    private static void jamAtAShutGate() {
        MarbleBoard board = Check.frozen(Check.columns(0), "2", "a");
        Check.same("one through two openings", board.jam(1), 0);
        Check.same("two through two openings", board.jam(2), 0);
        Check.same("three through two openings", board.jam(3), 1);
        board.turn(0, 0, 1);
        Check.same("two through one opening", board.jam(2), 1);
        board.turn(0, 0, 0);
        Check.same("one through none", board.jam(1), 1);
        MarbleBoard other = Check.frozen(Check.columns(0, 1), "a0", ".a");
        Check.same("the second inlet", other.jam(1), 1);
    }

    private static void jamOfTwoMarbles() {
        MarbleBoard board = Check.frozen(Check.columns(0), "|", "A");
        Check.same("one on a lift", board.jam(1), 0);
        Check.same("two in each other's way", board.jam(2), 1);
        MarbleBoard three = Check.frozen(Check.columns(0), "|", "|", "A");
        Check.same("two on a longer lift", three.jam(2), 0);
        Check.same("three on it", three.jam(3), 1);
        MarbleBoard self = Check.frozen(Check.columns(0), "A");
        Check.same("a lift to itself", self.jam(3), 0);
        MarbleBoard meeting = Check.frozen(Check.columns(0, 2), "\\./", ".X.", "abc");
        Check.same("two that meet", meeting.jam(3), 0);
    }

    /** One marble is held while another goes out, which is no jam. */
    private static void jamNeedsAllHeld() {
        MarbleBoard board = Check.frozen(Check.columns(0, 1), "|a", "B.");
        Check.same("the elder held, the younger gone", board.jam(2), 0);
        Check.same("two held, the youngest gone", board.jam(3), 0);
        MarbleBoard meeting = Check.frozen(Check.columns(0, 1), "\\|", ".|", ".a");
        Check.same("one held, one moving", meeting.jam(3), 0);
    }

    private static void jamNeedsAMarble() {
        Check.same("straight out", Check.frozen(Check.columns(0), "a").jam(3), 0);
        Check.same("straight down", Check.frozen(Check.columns(0), "|", "|", "a").jam(3), 0);
        MarbleBoard counter = new MarbleBoard();
        counter.counter(2);
        Check.same("a counter", counter.jam(3), 0);
    }

    private static void jamAmongManyAndFew() {
        MarbleBoard board = Boards.withRunOf(398);
        board.cell(7, 0, '0');
        board.cell(7, 1, 'a');
        board.inlet(1, 7);
        board.freeze();
        Check.same("a jam among more than 400", board.jam(1), MarbleBoard.MANY);
        board.turn(3, 2, 1);
        Check.same("a jam among less than 400", board.jam(1), 1);
    }

    private static void jamInADeepColumn() {
        MarbleBoard gate = Check.frozen(Check.columns(0), "||||||||||||||1a".split(""));
        Check.same("three marbles at a gate", gate.jam(3), MarbleBoard.MANY);
        Check.same("then one alone", gate.jam(1), 0);
        Check.same("then two", gate.jam(2), 1);
        Check.same("then one alone again", gate.jam(1), 0);
    }

    private static void jamChangesNothing() {
        MarbleBoard board = Check.frozen(Check.columns(1, 3), ".<.0", "a.bc");
        board.drop(0);
        board.roll(0);
        board.roll(1);
        board.tick(1);
        Check.same("one held", board.marbles(1), 1);
        board.turn(3, 0, 1);
        board.tick(1);
        board.turn(3, 0, 0);
        board.tick(1);
        Check.same("no marbles left", board.marbles(0), 0);
        board.turn(3, 0, 2);
        String before = Check.seen(board);
        Check.same("a jam of three", board.jam(3), 1);
        Check.same("no jam of two", board.jam(2), 0);
        Check.same("the board after jam", Check.seen(board), before);
        Check.same("counts after jam", board.count(0) + 10 * board.count(1) + 100 * board.count(2), 111);
        Check.same("marbles after jam", board.marbles(0), 0);
        Check.same("held after jam", board.marbles(1), 0);
        Check.same("undo after jam", board.undo(), true);
        Check.same("no more to be undone", board.undo(), false);
    }

    private static void jamRefuses() {
        MarbleBoard board = Check.board("a");
        Check.refusesState("jam before freeze", () -> board.jam(1));
        Check.refusesState("jam before freeze, bad number", () -> board.jam(0));
        board.inlet(0, 0);
        board.freeze();
        for (int many : new int[] {0, 4, -1, Integer.MIN_VALUE, Integer.MAX_VALUE}) {
            Check.refusesArgument("jam(" + many + ")", () -> board.jam(many));
        }
        board.roll(0);
        Check.refusesState("jam with a marble", () -> board.jam(1));
        Check.refusesState("jam with a marble, bad number", () -> board.jam(4));
        Check.same("the marble stays", board.marbles(0), 1);
    }
}
