/** Promises 12 to 14: drop, undo and count, and how a marble moves on. */
public final class RunTest {
    public static void main(String[] args) {
        dropThroughTracks();
        dropThroughToggles();
        dropThroughLatches();
        dropThroughGates();
        dropThroughLifts();
        dropIntoAShutGate();
        dropRoundAndRound();
        dropRefuses();
        undoGoesBack();
        undoSkipsLoops();
        undoTakesBackTurnsToo();
        undoRefuses();
        countOfEachOutlet();
        Check.end();
    }

    private static void dropThroughTracks() {
        Check.same("/", Check.frozen(Check.columns(1), "./.", "abc").drop(0), 0);
        Check.same("\\", Check.frozen(Check.columns(1), ".\\.", "abc").drop(0), 2);
        Check.same("|", Check.frozen(Check.columns(1), ".|.", "abc").drop(0), 1);
        Check.same("X straight", Check.frozen(Check.columns(1), ".X.", "abc").drop(0), 1);
        Check.same("X going left", Check.frozen(Check.columns(2), "../", ".X.", "abc").drop(0), 0);
        Check.same("X going right", Check.frozen(Check.columns(0), "\\..", ".X.", "abc").drop(0), 2);
        Check.same("| makes it straight", Check.frozen(Check.columns(0), "\\..", ".|.", ".X.", "abc").drop(0), 1);
        Check.same("X twice", Check.frozen(Check.columns(3), ".../", "..X.", ".X..", "a...").drop(0), 0);
        MarbleBoard board = Check.frozen(Check.columns(0, 1, 2, 3), "abcd");
        for (int k = 0; k < 4; k++) {
            Check.same("outlet " + k, board.drop(k), k);
        }
        Check.same("a wide board", Check.frozen(Check.columns(14), "..............\\.", "aaaaaaaaaaaaaaac").drop(0), 2);
    }

    private static void dropThroughToggles() {
        MarbleBoard board = Check.frozen(Check.columns(1, 3), ".\\./.", "..<..", ".a.d.");
        Check.same("a toggle leaning left, going right", board.drop(0), 0);
        Check.same("it leans right then", board.look(2, 1), '>');
        Check.same("a toggle leaning right, going right", board.drop(0), 3);
        Check.same("it leans left then", board.look(2, 1), '<');
        Check.same("a toggle leaning left, going left", board.drop(1), 0);
        Check.same("a toggle leaning right, going left", board.drop(1), 3);
        dropThroughAsManyTogglesAsCanBe();
    }

    private static void dropThroughAsManyTogglesAsCanBe() {
        MarbleBoard board = Check.frozen(Check.columns(1), ".<............", "a.b...........",
            "<><><><><><><>", "<><><><><><><.");
        Check.same("the first of 28 toggles", board.drop(0), 0);
        Check.same("and again", board.drop(0), 1);
        Check.same("28 toggles", board.explore(400), 2);
        Check.same("no jam among them", board.jam(2), 0);
        board.turn(12, 3, 1);
        Check.same("undo", board.undo(), true);
        Check.looksLike("28 toggles after undo", board, ".>............", "a.b...........",
            "<><><><><><><>", "<><><><><><><.");
    }

    private static void dropThroughLatches() {
        MarbleBoard board = Check.frozen(Check.columns(0, 1, 2), "\\|/", ".[.", "abc");
        Check.same("a latch leaning left, straight", board.drop(1), 0);
        Check.same("it stays", board.value(1, 1), 0);
        Check.same("going right through a latch", board.drop(0), 1);
        Check.same("it leans right then", board.value(1, 1), 1);
        Check.same("a latch leaning right, straight", board.drop(1), 2);
        Check.same("going right again", board.drop(0), 1);
        Check.same("it leans right still", board.value(1, 1), 1);
        Check.same("going left through a latch", board.drop(2), 1);
        Check.same("it leans left then", board.value(1, 1), 0);
        Check.same("going left again", board.drop(2), 1);
        Check.same("it leans left still", board.value(1, 1), 0);
        MarbleBoard behind = Check.frozen(Check.columns(0), "\\..", ".[.", ".X.", "abc");
        Check.same("it goes on straight behind a latch", behind.drop(0), 1);
    }

    private static void dropThroughGates() {
        MarbleBoard board = Check.frozen(Check.columns(0, 1, 2), "\\|/", ".2.", "abc");
        Check.same("a gate straight", board.drop(1), 1);
        Check.same("one opening less", board.value(1, 1), 1);
        Check.same("a gate going right", board.drop(0), 2);
        Check.same("one opening more", board.value(1, 1), 2);
        Check.same("a gate going left", board.drop(2), 0);
        Check.same("again one more", board.value(1, 1), 3);
        Check.same("a full gate going left", board.drop(2), 0);
        Check.same("at most three", board.value(1, 1), 3);
        Check.same("a full gate going right", board.drop(0), 2);
        Check.same("still three", board.look(1, 1), '3');
        for (int left = 2; left >= 0; left--) {
            Check.same("a gate straight with openings", board.drop(1), 1);
            Check.same("openings left", board.value(1, 1), left);
        }
        Check.same("a shut gate straight", board.drop(1), MarbleBoard.LOOP);
        Check.same("a shut gate going left", board.drop(2), 0);
        Check.same("it has an opening then", board.value(1, 1), 1);
    }

    private static void dropThroughLifts() {
        MarbleBoard board = Check.frozen(Check.columns(0, 1, 2, 3), "BCDa");
        Check.same("three lifts in a row", board.drop(0), 0);
        MarbleBoard straight = Check.frozen(Check.columns(1, 4), ".\\..X", "..B.d");
        Check.same("from a lift it comes straight", straight.drop(0), 3);
    }

    private static void dropIntoAShutGate() {
        MarbleBoard board = Check.frozen(Check.columns(2), "..<.", ".s.|", "a.b0", "...c");
        Check.same("first", board.drop(0), 0);
        Check.same("toggle", board.value(2, 0), 1);
        Check.same("a LOOP at a gate", board.drop(0), MarbleBoard.LOOP);
        Check.looksLike("the state stays", board, "..>.", ".s.|", "a.b0", "...c");
        Check.same("the position stays", board.value(1, 1), 1);
        Check.same("no count", board.count(0) + board.count(1) + board.count(2), 1);
        Check.same("a LOOP again", board.drop(0), MarbleBoard.LOOP);
    }

    private static void dropRoundAndRound() {
        MarbleBoard board = Check.frozen(Check.columns(1, 3), ".<.a", "A.A.");
        Check.same("a LOOP by lifts", board.drop(0), MarbleBoard.LOOP);
        Check.same("the toggle stays", board.value(1, 0), 0);
        board.turn(1, 0, 1);
        Check.same("a LOOP by lifts again", board.drop(0), MarbleBoard.LOOP);
        Check.same("the toggle stays again", board.value(1, 0), 1);
        Check.same("the other inlet", board.drop(1), 0);
        Check.same("a lift to itself", Check.frozen(Check.columns(0), "A").drop(0), MarbleBoard.LOOP);
    }

    private static void dropRefuses() {
        MarbleBoard board = Check.board("a0");
        board.inlet(1, 0);
        Check.refusesState("drop before freeze", () -> board.drop(1));
        Check.refusesState("drop before freeze without inlet", () -> board.drop(0));
        board.freeze();
        for (int k : new int[] {-1, 0, 2, 3, 4, Integer.MIN_VALUE, Integer.MAX_VALUE}) {
            Check.refusesArgument("drop(" + k + ")", () -> board.drop(k));
        }
        board.roll(1);
        Check.refusesState("drop with a marble", () -> board.drop(1));
        Check.refusesState("drop with a marble without inlet", () -> board.drop(0));
        Check.same("nothing counted", board.count(0), 0);
        board.tick(1);
        Check.same("drop when it is gone", board.drop(1), 0);
    }

    private static void undoGoesBack() {
        MarbleBoard board = Check.frozen(Check.columns(1), ".s.", "a.b");
        board.pattern(1, 0, 5, 0b01101);
        board.freeze();
        Check.same("undo of nothing", board.undo(), false);
        int[] due = {1, 0, 1, 1, 0, 1};
        for (int outlet : due) {
            Check.same("drop", board.drop(0), outlet);
        }
        for (int i = due.length - 1; i >= 0; i--) {
            int before = board.count(due[i]);
            int other = board.count(1 - due[i]);
            Check.same("undo " + i, board.undo(), true);
            Check.same("position after undo " + i, board.value(1, 0), i % 5);
            Check.same("count after undo " + i, board.count(due[i]), before - 1);
            Check.same("other count after undo " + i, board.count(1 - due[i]), other);
        }
        Check.same("undo of no more", board.undo(), false);
        Check.same("drop after undo", board.drop(0), 1);
        Check.same("undo after that", board.undo(), true);
        Check.same("undo twice", board.undo(), false);
    }

    private static void undoSkipsLoops() {
        MarbleBoard board = Check.frozen(Check.columns(0, 1), "10", "ab");
        Check.same("through the gate", board.drop(0), 0);
        Check.same("a LOOP", board.drop(1), MarbleBoard.LOOP);
        Check.same("a LOOP", board.drop(0), MarbleBoard.LOOP);
        Check.same("undo of the drop before the LOOPs", board.undo(), true);
        Check.same("its opening is back", board.value(0, 0), 1);
        Check.same("its count", board.count(0), 0);
        Check.same("no more", board.undo(), false);
        board.drop(0);
        for (int i = 0; i < 40; i++) {
            board.drop(1);
        }
        Check.same("undo of the drop before many LOOPs", board.undo(), true);
        Check.same("its opening is back again", board.value(0, 0), 1);
    }

    private static void undoTakesBackTurnsToo() {
        MarbleBoard board = Check.frozen(Check.columns(1, 3), ".<.2", "a.bc");
        board.drop(0);
        board.turn(1, 0, 0);
        board.turn(3, 0, 0);
        Check.same("undo behind turns", board.undo(), true);
        Check.looksLike("the state before the drop", board, ".<.2", "a.bc");
        board.drop(0);
        board.roll(1);
        board.tick(2);
        Check.same("a marble at once", board.count(2), 1);
        Check.same("undo behind a marble at once", board.undo(), true);
        Check.looksLike("the state before the drop again", board, ".<.2", "a.bc");
        Check.same("its count stays", board.count(2), 1);
        Check.same("no more", board.undo(), false);
    }

    private static void undoRefuses() {
        MarbleBoard board = Check.board("a");
        Check.refusesState("undo before freeze", board::undo);
        board.inlet(0, 0);
        board.freeze();
        board.drop(0);
        board.roll(0);
        Check.refusesState("undo with a marble", board::undo);
        Check.same("count", board.count(0), 1);
        board.tick(1);
        Check.same("undo without it", board.undo(), true);
        Check.same("count of the marble at once", board.count(0), 1);
        board.cell(0, 0, 'a');
        Check.refusesState("undo after building", board::undo);
    }

    private static void countOfEachOutlet() {
        MarbleBoard board = Check.frozen(Check.columns(0, 1, 2, 3), "dcba");
        for (int k = 0; k < 4; k++) {
            for (int i = 0; i <= k; i++) {
                board.drop(k);
            }
        }
        board.roll(2);
        board.tick(1);
        int[] due = {4, 4, 2, 1};
        for (int o = 0; o < 4; o++) {
            Check.same("count " + o, board.count(o), due[o]);
        }
        for (int o : new int[] {-1, 4, Integer.MIN_VALUE, Integer.MAX_VALUE}) {
            Check.refusesArgument("count(" + o + ")", () -> board.count(o));
        }
        board.board(2, 2);
        board.inlet(0, 0);
        board.tell(0, 1);
        Check.same("building changes no count", board.count(0), 4);
    }
}
