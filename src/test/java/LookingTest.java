/** Promises 9 to 11: look, value and turn. */
public final class LookingTest {
    private static final int[][] BEYOND = {{-1, 0}, {4, 0}, {0, -1}, {0, 2}, {16, 0}, {0, 16},
        {Integer.MIN_VALUE, 0}, {0, Integer.MAX_VALUE}};

    public static void main(String[] args) {
        lookTellsTheCellAsItIs();
        lookFollowsRuns();
        valueOfEachKind();
        valueRefuses();
        turnGivesEachValue();
        turnRefuses();
        turnIsNoBuilding();
        Check.end();
    }

    private static void lookTellsTheCellAsItIs() {
        MarbleBoard board = Check.board("<[0s", ">]3a");
        board.turn(0, 0, 1);
        board.turn(1, 0, 1);
        board.turn(2, 0, 2);
        board.turn(3, 0, 1);
        board.turn(0, 1, 0);
        board.turn(1, 1, 0);
        board.turn(2, 1, 1);
        Check.looksLike("turned cells", board, ">]2s", "<[1a");
        for (int[] cell : BEYOND) {
            Check.refusesArgument("look(" + cell[0] + ", " + cell[1] + ")", () -> board.look(cell[0], cell[1]));
        }
    }

    private static void lookFollowsRuns() {
        MarbleBoard board = Check.frozen(Check.columns(1, 3, 4), ".<.2\\..", "a.bc.[.", ".....d.");
        board.drop(0);
        board.drop(1);
        board.drop(2);
        Check.looksLike("after runs", board, ".>.1\\..", "a.bc.].", ".....d.");
        board.drop(0);
        Check.looksLike("after a run more", board, ".<.1\\..", "a.bc.].", ".....d.");
        board.roll(0);
        board.tick(1);
        Check.same("a toggle after a tick", board.look(1, 0), '>');
    }

    private static void valueOfEachKind() {
        MarbleBoard board = Check.board("<>[]", "0123");
        int[] due = {0, 1, 0, 1, 0, 1, 2, 3};
        for (int i = 0; i < 8; i++) {
            Check.same("value of cell " + i, board.value(i % 4, i / 4), due[i]);
        }
        board.cell(0, 0, 's');
        Check.same("value of a new splitter", board.value(0, 0), 0);
        board.turn(0, 0, 1);
        Check.same("value of a turned splitter", board.value(0, 0), 1);
    }

    private static void valueRefuses() {
        String still = "./\\|XabcdABCD";
        MarbleBoard board = Check.board("<<<<", "<<<<");
        for (char c : still.toCharArray()) {
            board.cell(1, 1, c);
            Check.refusesArgument("value of " + c, () -> board.value(1, 1));
            Check.refusesArgument("turn of " + c, () -> board.turn(1, 1, 0));
        }
        for (int[] cell : BEYOND) {
            Check.refusesArgument("value(" + cell[0] + ", " + cell[1] + ")", () -> board.value(cell[0], cell[1]));
            Check.refusesArgument("turn(" + cell[0] + ", " + cell[1] + ")", () -> board.turn(cell[0], cell[1], 0));
        }
    }

    private static void turnGivesEachValue() {
        checkTurns("toggle", '<', 0, 2);
        checkTurns("toggle", '>', 1, 2);
        checkTurns("latch", '[', 0, 2);
        checkTurns("latch", ']', 1, 2);
        checkTurns("gate", '2', 2, 4);
        checkTurns("splitter", 's', 0, 2);
        for (int length = 1; length <= 8; length++) {
            MarbleBoard board = Check.board("s");
            board.pattern(0, 0, length, 5);
            checkTurns("splitter of " + length, board, 0, length);
        }
    }

    private static void checkTurns(String what, char c, int first, int values) {
        checkTurns(what, Check.board("" + c), first, values);
    }

    private static void checkTurns(String what, MarbleBoard board, int first, int values) {
        int before = first;
        for (int v = 0; v < values; v++) {
            Check.same("turn of a " + what + " to " + v, board.turn(0, 0, v), before);
            Check.same("value of a " + what + " turned to " + v, board.value(0, 0), v);
            before = v;
        }
        for (int v : new int[] {-1, values, Integer.MIN_VALUE, Integer.MAX_VALUE}) {
            Check.refusesArgument("turn of a " + what + " to " + v, () -> board.turn(0, 0, v));
        }
        Check.same("value of a " + what + " after refusals", board.value(0, 0), values - 1);
    }

    private static void turnRefuses() {
        MarbleBoard board = Check.board("<[3a", "s...");
        Check.refusesArgument("a toggle has no value 2", () -> board.turn(0, 0, 2));
        Check.refusesArgument("a latch has no value 2", () -> board.turn(1, 0, 2));
        Check.refusesArgument("a gate has no value 4", () -> board.turn(2, 0, 4));
        Check.refusesArgument("an outlet has no value", () -> board.turn(3, 0, 0));
        Check.refusesArgument("an outlet has no value -1", () -> board.turn(3, 0, -1));
        Check.refusesArgument("a new splitter has no value 2", () -> board.turn(0, 1, 2));
        Check.looksLike("after refused turns", board, "<[3a", "s...");
    }

    private static void turnIsNoBuilding() {
        MarbleBoard board = Check.frozen(Check.columns(1, 2), ".<0", "a.b");
        board.drop(0);
        board.roll(1);
        board.tick(1);
        Check.same("turn of a frozen board", board.turn(1, 0, 0), 1);
        Check.same("still frozen", Check.isFrozen(board), true);
        Check.same("marbles stay", board.marbles(0), 1);
        Check.same("held stays", board.marbles(1), 1);
        Check.same("counts stay", board.count(0), 1);
        board.turn(2, 0, 1);
        Check.same("the opened gate lets it through", board.tick(2), 1);
        Check.same("the turned toggle sends to the left", board.drop(0), 0);
    }
}
