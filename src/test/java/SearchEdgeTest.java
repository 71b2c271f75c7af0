/** The boundary cases of promises 18 to 20, a test for each sentence, which stands above it. */
public final class SearchEdgeTest {
    public static void main(String[] args) {
        exploreCountsThePresentStateToo();
        exploreFromThePresentState();
        exploreWithALimitJustMetAndJustPassed();
        exploreOfFourHundred();
        exploreChangesNothing();
        exploreNeedsAFrozenBoard();
        exploreRefusesLimits();
        canReachFromSomeStateThatExploreCounts();
        canReachNotByALoop();
        canReachOfFourHundred();
        canReachChangesNothing();
        canReachNeedsAFrozenBoard();
        canReachRefusesInlets();
        canReachRefusesOutlets();
        jamOfAsManyAsMayCome();
        jamNeedsAFreeCellBelowTheInlet();
        jamStartsAtThePresentState();
        jamHoldsAllMarbles();
        jamNeedsAtLeastOneMarble();
        jamOfFourHundred();
        jamAmongMoreThanFourHundred();
        jamChangesNothing();
        jamNeedsAFrozenBoard();
        jamNeedsABoardWithoutMarbles();
        jamRefusesNumbers();
        Check.end();
    }

    /** Promise 18: "How many states can be reached from the present one by runs, itself too" */
    private static void exploreCountsThePresentStateToo() {
        Check.same("no moving cells", Check.frozen(Check.columns(0), "a").explore(1), 1);
        Check.same("every run is a LOOP", Check.frozen(Check.columns(0, 1), "0B", "a.").explore(1), 1);
        Check.same("a run that changes nothing", Check.frozen(Check.columns(1), ".[.", "a.b").explore(1), 1);
        MarbleBoard one = Check.board(".s.", "a.b");
        one.inlet(0, 1);
        one.pattern(1, 0, 1, 0);
        one.freeze();
        Check.same("a splitter of one bit", one.explore(1), 1);
        Check.same("a state that is never left again", Check.frozen(Check.columns(0), "1", "a").explore(2), 2);
    }

    /** Promise 18: "from the present one" */
    private static void exploreFromThePresentState() {
        MarbleBoard board = Check.frozen(Check.columns(0), "3", "a");
        for (int openings = 3; openings >= 0; openings--) {
            board.turn(0, 0, openings);
            Check.same(openings + " openings", board.explore(400), openings + 1);
        }
        Check.same("a run of 300 moves, then a LOOP", Boards.withRunOf(300).explore(400), 2);
        Check.same("a run of 301 moves", Boards.withRunOf(301).explore(400), 1);
    }

    /** Promise 18: "MANY when there are more than limit" */
    private static void exploreWithALimitJustMetAndJustPassed() {
        for (int length = 1; length <= 8; length++) {
            MarbleBoard board = Check.board(".s.", "a.b");
            board.inlet(0, 1);
            board.pattern(1, 0, length, 0b10110100);
            board.freeze();
            for (int limit = 1; limit <= 9; limit++) {
                int due = limit >= length ? length : MarbleBoard.MANY;
                Check.same(length + " states, limit " + limit, board.explore(limit), due);
            }
        }
        MarbleBoard counter = new MarbleBoard();
        for (int bits = 1; bits <= 8; bits++) {
            int states = 1 << bits;
            counter.counter(bits);
            Check.same(states + " states, just met", counter.explore(states), states);
            Check.same(states + " states, just passed", counter.explore(states - 1), MarbleBoard.MANY);
            Check.same(states + " states, one more", counter.explore(states + 1), states);
        }
        exploreWithSeveralMoreAtOnce();
    }

    /** From one state four others come: the limit is passed by more than one. */
    private static void exploreWithSeveralMoreAtOnce() {
        MarbleBoard board = Check.frozen(Check.columns(0, 1, 2, 3), "1111", "abcd");
        for (int limit = 1; limit < 16; limit++) {
            Check.same("16 states, limit " + limit, board.explore(limit), MarbleBoard.MANY);
        }
        Check.same("16 states, limit 16", board.explore(16), 16);
    }

    /** Promise 18: "MANY when there are more than limit", the greatest limit */
    private static void exploreOfFourHundred() {
        Check.same("400 states", Boards.withFourHundredStates().explore(400), 400);
        Check.same("400 states, limit 399", Boards.withFourHundredStates().explore(399), MarbleBoard.MANY);
        Check.same("400 states in a circle", Boards.withCircleOfStates(1).explore(400), 400);
        Check.same("400 states in a circle, limit 399", Boards.withCircleOfStates(1).explore(399), MarbleBoard.MANY);
        Check.same("401 states", Boards.withCircleOfStates(0).explore(400), MarbleBoard.MANY);
        MarbleBoard many = Check.frozen(Check.columns(1, 4, 7, 10), ".s..s..s..s.", "a.ba.ba.ba.b");
        for (int k = 0; k < 4; k++) {
            many.pattern(3 * k + 1, 0, 8, 1);
        }
        many.freeze();
        Check.same("4096 states", many.explore(400), MarbleBoard.MANY);
    }

    private static void exploreChangesNothing() {
        for (int limit : new int[] {1, 2, 400}) {
            Probe.changesNothing("explore(" + limit + ") with marbles", Boards::crowded, b -> b.explore(limit));
            Probe.changesNothing("explore(" + limit + ")", Boards::played, b -> b.explore(limit));
        }
        MarbleBoard board = Boards.played();
        int states = board.explore(400);
        board.roll(0);
        Check.same("marbles are no matter", board.explore(400), states);
    }

    /** Promise 18: "IllegalStateException: the board is not frozen" */
    private static void exploreNeedsAFrozenBoard() {
        for (int limit : new int[] {1, 400, 0, 401, Integer.MIN_VALUE, Integer.MAX_VALUE}) {
            Check.refusesState("explore(" + limit + ") before freeze", () -> Boards.mixed().explore(limit));
            MarbleBoard board = Boards.played();
            board.cell(3, 3, '.');
            Check.refusesState("explore(" + limit + ") after building", () -> board.explore(limit));
        }
    }

    /** Promise 18: "IllegalArgumentException: limit is not 1 .. 400." */
    private static void exploreRefusesLimits() {
        MarbleBoard board = Check.frozen(Check.columns(0), "a");
        for (int limit : Check.beside(1, 400)) {
            Check.refusesArgument("explore(" + limit + ")", () -> board.explore(limit));
        }
        Check.same("explore(1)", board.explore(1), 1);
        Check.same("explore(400)", board.explore(400), 1);
    }

    /** Promise 19: "1 if some state that explore() counts sends a marble from inlet k to outlet o, otherwise 0" */
    private static void canReachFromSomeStateThatExploreCounts() {
        MarbleBoard counter = new MarbleBoard();
        counter.counter(8);
        Check.same("the present state", counter.canReach(0, 0), 1);
        Check.same("the last of 256 states alone", counter.canReach(0, 1), 1);
        Check.same("no state", counter.canReach(0, 2), 0);
        Check.same("no state to the last outlet", counter.canReach(0, 3), 0);
        MarbleBoard gates = Check.frozen(Check.columns(0, 3), "1..1", "a..d");
        Check.same("the first inlet to the first outlet", gates.canReach(0, 0), 1);
        Check.same("the first inlet to the last outlet", gates.canReach(0, 3), 0);
        Check.same("the second inlet to the last outlet", gates.canReach(1, 3), 1);
        gates.drop(0);
        Check.same("a state that is no more", gates.canReach(0, 0), 0);
        MarbleBoard latch = Check.frozen(Check.columns(1, 0), "\\|.", ".[.", "abc");
        Check.same("by a run from another inlet", latch.canReach(0, 2), 1);
        latch.inlet(1, -1);
        latch.freeze();
        Check.same("without that inlet", latch.canReach(0, 2), 0);
    }

    private static void canReachNotByALoop() {
        Check.same("a shut gate", Check.frozen(Check.columns(0), "0", "a").canReach(0, 0), 0);
        Check.same("a run of 300 moves", Boards.withRunOf(300).canReach(0, 1), 1);
        Check.same("a run of 301 moves", Boards.withRunOf(301).canReach(0, 1), 0);
    }

    /** Promise 19: "MANY when there are more than 400" */
    private static void canReachOfFourHundred() {
        Check.same("400 states, there", Boards.withFourHundredStates().canReach(3, 2), 1);
        Check.same("400 states, not there", Boards.withFourHundredStates().canReach(0, 2), 0);
        Check.same("400 states in a circle, the last sends there", Boards.withCircleOfStates(1).canReach(0, 1), 1);
        Check.same("400 states in a circle, not there", Boards.withCircleOfStates(1).canReach(0, 2), 0);
        for (int o = 0; o < 4; o++) {
            Check.same("401 states, outlet " + o, Boards.withCircleOfStates(0).canReach(0, o), MarbleBoard.MANY);
        }
    }

    private static void canReachChangesNothing() {
        Probe.changesNothing("canReach with marbles", Boards::crowded, b -> b.canReach(2, 2));
        Probe.changesNothing("canReach", Boards::played, b -> b.canReach(0, 3));
        Check.same("marbles are no matter", Boards.crowded().canReach(0, 0), 1);
        MarbleBoard many = Boards.withCircleOfStates(0);
        String before = Check.seen(many);
        many.canReach(0, 0);
        Check.same("the cells after MANY", Check.seen(many), before);
        Check.same("the first position after MANY", many.value(1, 2), 0);
    }

    /** Promise 19: "IllegalStateException: the board is not frozen" */
    private static void canReachNeedsAFrozenBoard() {
        int[][] pairs = {{0, 0}, {1, 0}, {0, 4}, {-1, -1}, {Integer.MIN_VALUE, Integer.MAX_VALUE}};
        for (int[] pair : pairs) {
            String what = "canReach(" + pair[0] + ", " + pair[1] + ")";
            Check.refusesState(what + " before freeze", () -> Boards.mixed().canReach(pair[0], pair[1]));
            MarbleBoard board = Boards.played();
            board.cell(3, 3, '.');
            Check.refusesState(what + " after building", () -> board.canReach(pair[0], pair[1]));
        }
    }

    /** Promise 19: "IllegalArgumentException: there is no inlet k" */
    private static void canReachRefusesInlets() {
        MarbleBoard board = Boards.played();
        for (int k : new int[] {1, 3, -1, 4, Integer.MIN_VALUE, Integer.MAX_VALUE}) {
            Check.refusesArgument("canReach(" + k + ", 0)", () -> board.canReach(k, 0));
            Check.refusesArgument("canReach(" + k + ", 3)", () -> board.canReach(k, 3));
        }
        MarbleBoard many = Boards.withCircleOfStates(0);
        Check.refusesArgument("401 states, no such inlet", () -> many.canReach(1, 0));
    }

    /** Promise 19: "or o is not 0 .. 3" */
    private static void canReachRefusesOutlets() {
        MarbleBoard board = Boards.played();
        MarbleBoard many = Boards.withCircleOfStates(0);
        for (int o : Check.beside(0, 3)) {
            Check.refusesArgument("canReach(0, " + o + ")", () -> board.canReach(0, o));
            Check.refusesArgument("canReach(2, " + o + ")", () -> board.canReach(2, o));
            Check.refusesArgument("401 states, outlet " + o, () -> many.canReach(0, o));
        }
    }

    /** Promise 20: "and how many may still come: at first .. many" */
    private static void jamOfAsManyAsMayCome() {
        for (int openings = 0; openings <= 3; openings++) {
            MarbleBoard board = Check.frozen(Check.columns(0), "" + openings, "a");
            for (int many = 1; many <= 3; many++) {
                Check.same(many + " through " + openings, board.jam(many), many > openings ? 1 : 0);
            }
        }
        for (int rows = 1; rows <= 4; rows++) {
            MarbleBoard board = lifting(rows);
            for (int many = 1; many <= 3; many++) {
                Check.same(many + " on a lift of " + rows, board.jam(many), rows > 1 && many >= rows ? 1 : 0);
            }
        }
    }

    /** As many marbles as it has rows are all in each other's way; one alone in one row is not in its own. */
    private static MarbleBoard lifting(int rows) {
        MarbleBoard board = new MarbleBoard();
        board.board(1, rows);
        for (int y = 0; y < rows; y++) {
            board.cell(0, y, y == rows - 1 ? 'A' : '|');
        }
        board.inlet(0, 0);
        Check.same("a lift can be frozen", board.freeze(), 1);
        return board;
    }

    /** Promise 20: "by a marble that comes to the cell below an inlet if none is there" */
    private static void jamNeedsAFreeCellBelowTheInlet() {
        Check.same("a lift to itself, three", lifting(1).jam(3), 0);
        MarbleBoard one = Check.frozen(Check.columns(0, 0, 0, 0), "D");
        Check.same("a lift to itself, four inlets in its column", one.jam(3), 0);
        MarbleBoard two = Check.frozen(Check.columns(0, 1), "BA");
        Check.same("one on two lifts to each other's cells", two.jam(1), 0);
        Check.same("two on them", two.jam(2), 1);
        Check.same("no third can come", two.jam(3), 1);
    }

    /** Promise 20: "at first the present state, no marbles" */
    private static void jamStartsAtThePresentState() {
        MarbleBoard board = Check.frozen(Check.columns(1), ".<.", "a.|", "..0", "..b");
        Check.same("leaning to the outlet", board.jam(1), 0);
        Check.same("the second one comes to the gate", board.jam(2), 1);
        board.turn(1, 0, 1);
        Check.same("leaning to the gate", board.jam(1), 1);
        board.turn(2, 2, 1);
        Check.same("with an opening", board.jam(1), 0);
    }

    /** Promise 20: "1 if in a tick of some situation that can be reached all marbles .. are held" */
    private static void jamHoldsAllMarbles() {
        MarbleBoard board = Check.frozen(Check.columns(0, 1), "|a", "B.");
        Check.same("one held, the other gone in the same tick", board.jam(3), 0);
        MarbleBoard meeting = Check.frozen(Check.columns(0, 2), "\\./", ".|.", ".a.");
        Check.same("one held while the other moves", meeting.jam(3), 0);
        MarbleBoard beside = Check.frozen(Check.columns(0, 1), "0|", "aA");
        Check.same("one held alone", beside.jam(1), 1);
        beside.turn(0, 0, 3);
        Check.same("one lifted to the gate again and again", beside.jam(2), 0);
    }

    /** Promise 20: "all marbles, at least one" */
    private static void jamNeedsAtLeastOneMarble() {
        Check.same("out at once", Check.frozen(Check.columns(0), "a").jam(1), 0);
        Check.same("out at once, three", Check.frozen(Check.columns(0, 0, 0, 0), "a").jam(3), 0);
        MarbleBoard counter = new MarbleBoard();
        counter.counter(1);
        Check.same("a counter", counter.jam(3), 0);
    }

    /**
     * Promise 20: "MANY when more than 400 situations can be reached (the first one too)". One marble has a situation
     * for each time that it moves on, with one before and one behind.
     */
    private static void jamOfFourHundred() {
        Check.same("399 situations", Boards.withRunOf(397).jam(1), 0);
        Check.same("400 situations", Boards.withRunOf(398).jam(1), 0);
        Check.same("401 situations", Boards.withRunOf(399).jam(1), MarbleBoard.MANY);
        Check.same("402 situations", Boards.withRunOf(400).jam(1), MarbleBoard.MANY);
        Check.same("648 situations", Boards.withRunOf(646).jam(1), MarbleBoard.MANY);
        Check.same("three marbles, 392 situations", column(12).jam(3), 0);
        Check.same("three marbles, 485 situations", column(13).jam(3), MarbleBoard.MANY);
    }

    private static MarbleBoard column(int rows) {
        return Check.frozen(Check.columns(0), ("|".repeat(rows - 1) + "a").split(""));
    }

    /** Promise 20: "otherwise 0; MANY when more than 400 situations", where the last one is a jam */
    private static void jamAmongMoreThanFourHundred() {
        Check.same("a jam, 399 situations", Boards.withRunToAShutGate(398).jam(1), 1);
        Check.same("a jam, 400 situations", Boards.withRunToAShutGate(399).jam(1), 1);
        Check.same("a jam, 401 situations", Boards.withRunToAShutGate(400).jam(1), MarbleBoard.MANY);
        MarbleBoard early = Boards.withRunOf(399);
        early.cell(7, 0, '0');
        early.cell(7, 1, 'a');
        early.inlet(1, 7);
        early.freeze();
        Check.same("a jam that is found early", early.jam(1), MarbleBoard.MANY);
    }

    private static void jamChangesNothing() {
        for (int many = 1; many <= 3; many++) {
            int n = many;
            Probe.changesNothing("jam(" + many + ")", Boards::played, b -> b.jam(n));
        }
        MarbleBoard board = Boards.withRunOf(399);
        String before = Check.seen(board);
        board.jam(1);
        Check.same("the cells after MANY", Check.seen(board), before);
        Check.same("no marbles after MANY", board.marbles(0), 0);
        Check.same("no count after MANY", board.count(1), 0);
        Probe.changesNothing("jam after marbles at once", SearchEdgeTest::allGone, b -> b.jam(3));
    }

    /** One marble was held while the other one went, and is gone since. */
    private static MarbleBoard allGone() {
        MarbleBoard board = Check.frozen(Check.columns(0, 1), "|a", "B.");
        board.roll(0);
        board.tick(1);
        board.roll(1);
        board.tick(1);
        Check.same("one was held", board.marbles(1), 1);
        board.tick(2);
        Check.same("none is left", board.marbles(0), 0);
        return board;
    }

    /** Promise 20: "IllegalStateException: the board is not frozen" */
    private static void jamNeedsAFrozenBoard() {
        for (int many : new int[] {1, 3, 0, 4, Integer.MIN_VALUE, Integer.MAX_VALUE}) {
            Check.refusesState("jam(" + many + ") before freeze", () -> Boards.mixed().jam(many));
            MarbleBoard board = Boards.played();
            board.cell(3, 3, '.');
            Check.refusesState("jam(" + many + ") after building", () -> board.jam(many));
        }
    }

    /** Promise 20: "or has marbles" */
    private static void jamNeedsABoardWithoutMarbles() {
        for (int many : new int[] {1, 3, 0, 4, Integer.MIN_VALUE, Integer.MAX_VALUE}) {
            MarbleBoard board = Check.frozen(Check.columns(0), "a");
            board.roll(0);
            Check.refusesState("jam(" + many + ") with a marble", () -> board.jam(many));
            Check.same("it is there still", board.marbles(2), 0);
            board.tick(1);
            Check.same("jam when it is gone", board.jam(1), 0);
        }
    }

    /** Promise 20: "IllegalArgumentException: many is not 1 .. 3." */
    private static void jamRefusesNumbers() {
        MarbleBoard board = Check.frozen(Check.columns(0), "0", "a");
        for (int many : Check.beside(1, 3)) {
            Check.refusesArgument("jam(" + many + ")", () -> board.jam(many));
        }
        Check.same("jam(1)", board.jam(1), 1);
        Check.same("jam(3)", board.jam(3), 1);
    }
}
