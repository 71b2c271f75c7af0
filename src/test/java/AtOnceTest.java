/** Promises 15 to 17: roll, tick and marbles. */
public final class AtOnceTest {
    public static void main(String[] args) {
        rollNeedsAFreeCell();
        rollTakesSix();
        rollRefuses();
        tickMovesInOrder();
        tickHoldsWhereTwoMeet();
        tickHoldsTheElderBehindTheYounger();
        tickHoldsAtAShutGate();
        heldMarblesChangeNothing();
        tickIntoItsOwnCell();
        tickOfAnEmptyBoard();
        tickTakesGoneMarblesOff();
        tickRemembersHowMarblesCame();
        tickRefuses();
        marblesTellsPlaces();
        marblesTellsHeld();
        marblesRefuses();
        Check.end();
    }

    private static void rollNeedsAFreeCell() {
        MarbleBoard board = Check.frozen(Check.columns(0, 1, 0), "||", "ab");
        Check.same("roll", board.roll(0), true);
        Check.same("its place", board.marbles(2), 0);
        Check.same("roll onto it", board.roll(0), false);
        Check.same("roll onto it from another inlet", board.roll(2), false);
        Check.same("roll beside it", board.roll(1), true);
        Check.same("marbles", board.marbles(0), 2);
        Check.same("the second one's place", board.marbles(3), 1);
        board.tick(1);
        Check.same("roll when it has gone on", board.roll(2), true);
    }

    private static void rollTakesSix() {
        MarbleBoard board = Check.frozen(Check.columns(0, 1), "||", "||", "||", "||", "||", "||", "||", "0a", "a.");
        for (int i = 0; i < 6; i++) {
            Check.same("roll " + i, board.roll(0), true);
            board.tick(1);
            Check.same("marbles", board.marbles(0), i + 1);
        }
        Check.same("roll of the seventh", board.roll(0), false);
        Check.same("roll of the seventh elsewhere", board.roll(1), false);
        Check.same("six marbles", board.marbles(0), 6);
        board.turn(0, 7, 1);
        board.tick(10);
        Check.same("five marbles", board.marbles(0), 5);
        Check.same("roll of a sixth", board.roll(1), true);
        Check.same("roll of a seventh again", board.roll(0), false);
    }

    private static void rollRefuses() {
        MarbleBoard board = Check.board("aa");
        board.inlet(1, 0);
        Check.refusesState("roll before freeze", () -> board.roll(1));
        Check.refusesState("roll before freeze without inlet", () -> board.roll(0));
        board.freeze();
        for (int k : new int[] {-1, 0, 2, 4, Integer.MAX_VALUE, Integer.MIN_VALUE}) {
            Check.refusesArgument("roll(" + k + ")", () -> board.roll(k));
        }
        Check.same("no marble", board.marbles(0), 0);
        board.roll(1);
        Check.refusesArgument("roll without inlet, with a marble", () -> board.roll(0));
    }

    private static void places(String what, MarbleBoard board, int... due) {
        Check.same(what + ": marbles", board.marbles(0), due.length);
        for (int i = 0; i < due.length; i++) {
            int marble = i;
            Check.same(what + ": marble " + i, Check.answer(() -> board.marbles(2 + marble)), due[i]);
        }
    }

    /** The one ahead goes first, so the one behind can follow in the same tick. */
    private static void tickMovesInOrder() {
        MarbleBoard board = Check.frozen(Check.columns(0), "|", "|", "|", "a");
        board.roll(0);
        board.tick(1);
        board.roll(0);
        places("before", board, 1, 0);
        Check.same("tick", board.tick(1), 0);
        places("after", board, 2, 1);
        Check.same("none held", board.marbles(1), 0);
        Check.same("two ticks", board.tick(2), 1);
        places("after two more", board, 3);
        Check.same("the last tick", board.tick(1), 1);
        places("at the end", board);
        Check.same("count", board.count(0), 2);
    }

    private static void tickHoldsWhereTwoMeet() {
        MarbleBoard board = Check.frozen(Check.columns(0, 2), "\\./", ".X.", "abc");
        board.roll(1);
        board.roll(0);
        board.tick(1);
        places("the first to come goes", board, 4, 0);
        Check.same("one held", board.marbles(1), 1);
        board.tick(1);
        places("then the other", board, 6, 4);
        Check.same("none held", board.marbles(1), 0);
        Check.same("one gone", board.tick(1), 1);
        places("the other one", board, 8);
    }

    private static void tickHoldsTheElderBehindTheYounger() {
        MarbleBoard board = Check.frozen(Check.columns(0), "|", "|", "A");
        board.roll(0);
        board.tick(2);
        board.roll(0);
        places("before", board, 2, 0);
        board.tick(1);
        places("the elder waits at its lift", board, 2, 1);
        Check.same("it is held", board.marbles(1), 1);
        board.tick(1);
        places("then it is lifted", board, 0, 2);
        Check.same("none is held", board.marbles(1), 0);
        board.tick(1);
        places("and the younger after it", board, 1, 0);
    }

    private static void tickHoldsAtAShutGate() {
        MarbleBoard board = Check.frozen(Check.columns(1, 0), "\\|.", ".0.", ".ab");
        board.roll(0);
        board.tick(5);
        places("at the gate", board, 4);
        Check.same("held", board.marbles(1), 1);
        board.roll(1);
        board.tick(1);
        places("another cannot come to the gate", board, 4, 0);
        Check.same("both held", board.marbles(1), 2);
        board.turn(1, 1, 2);
        Check.same("the gate is open", board.tick(1), 0);
        places("both go", board, 7, 4);
        Check.same("an opening less", board.value(1, 1), 1);
        board.tick(1);
        Check.same("an opening more", board.value(1, 1), 2);
        places("as it came", board, 8);
        Check.same("the last", board.tick(1), 1);
        Check.same("outlet a", board.count(0), 1);
        Check.same("outlet b", board.count(1), 1);
    }

    /** Each moving cell in turn has a marble that could move on, but for the one that is in its way. */
    private static void heldMarblesChangeNothing() {
        checkHeld("a toggle", ".<.", 1);
        checkHeld("a latch", ".[.", 0);
        checkHeld("a splitter", ".s.", 1);
        heldGateChangesNothing();
        heldSidewaysChangesNothing();
    }

    private static void heldGateChangesNothing() {
        MarbleBoard gate = Check.frozen(Check.columns(0), "2", "0", "a");
        gate.roll(0);
        gate.tick(1);
        gate.roll(0);
        gate.tick(3);
        Check.same("a gate keeps its openings", gate.value(0, 0), 1);
        gate.turn(0, 1, 1);
        gate.tick(1);
        Check.same("a gate gives one", gate.value(0, 0), 0);
    }

    private static void heldSidewaysChangesNothing() {
        MarbleBoard latch = Check.frozen(Check.columns(0), "\\.", ".[", ".0", ".a");
        latch.roll(0);
        latch.tick(2);
        latch.turn(1, 1, 0);
        latch.roll(0);
        latch.tick(3);
        places("a latch with its way taken", latch, 5, 3);
        Check.same("a latch leans as it did", latch.value(1, 1), 0);
        latch.turn(1, 2, 1);
        latch.tick(1);
        Check.same("a latch leans as the marble went", latch.value(1, 1), 1);
        MarbleBoard gate = Check.frozen(Check.columns(0), "\\..", ".1.", "..|", "..0", "..a");
        for (int i = 0; i < 3; i++) {
            gate.turn(1, 1, 1);
            gate.roll(0);
            gate.tick(4 - i);
        }
        gate.tick(2);
        places("a gate with its way taken", gate, 11, 8, 4);
        Check.same("a gate has openings as it had", gate.value(1, 1), 1);
        gate.turn(2, 3, 1);
        gate.tick(1);
        Check.same("a gate has one more", gate.value(1, 1), 2);
    }

    private static void checkHeld(String what, String top, int after) {
        MarbleBoard board = Check.frozen(Check.columns(1), top, "|.b", "0..", "a..");
        for (int i = 0; i < 3; i++) {
            board.turn(1, 0, 0);
            board.roll(0);
            board.tick(3 - i);
        }
        board.tick(2);
        places(what + " with its way taken", board, 6, 3, 1);
        Check.same(what + " is unchanged", board.value(1, 0), 0);
        Check.same("all held", board.marbles(1), 3);
        board.turn(0, 2, 3);
        board.tick(1);
        Check.same(what + " with its way free", board.value(1, 0), after);
        places(what + " after that", board, 9, 6, 3);
    }

    private static void tickIntoItsOwnCell() {
        MarbleBoard board = Check.frozen(Check.columns(0, 1, 0), "A|", ".c");
        board.roll(0);
        Check.same("a lift to itself", board.tick(3), 0);
        Check.same("moves on, and is not held", board.marbles(1), 0);
        places("where it was", board, 0);
        Check.same("its cell is taken", board.roll(2), false);
    }

    private static void tickOfAnEmptyBoard() {
        MarbleBoard board = Check.frozen(Check.columns(0, 1), "01", "aa");
        board.roll(0);
        board.roll(1);
        board.tick(1);
        Check.same("one held", board.marbles(1), 1);
        board.turn(0, 0, 1);
        Check.same("both gone in the end", board.tick(64), 2);
        Check.same("none held in the latest tick", board.marbles(1), 0);
        Check.same("nothing left", board.tick(64), 0);
    }

    private static void tickTakesGoneMarblesOff() {
        MarbleBoard board = Check.frozen(Check.columns(0, 1, 2, 3), "a|b|", ".c.d");
        board.roll(1);
        board.roll(0);
        board.roll(3);
        board.roll(2);
        Check.same("two gone", board.tick(1), 2);
        places("two left, in their order", board, 5, 7);
        Check.same("count a", board.count(0), 1);
        Check.same("count b", board.count(1), 1);
        Check.same("count c", board.count(2), 0);
        Check.same("two more gone", board.tick(1), 2);
        Check.same("count c at last", board.count(2), 1);
        Check.same("count d", board.count(3), 1);
    }

    private static void tickRemembersHowMarblesCame() {
        MarbleBoard board = Check.frozen(Check.columns(0, 1, 2), "\\|/", ".X.", "abc");
        for (int k = 0; k < 3; k++) {
            board.roll(k);
            board.tick(2);
            Check.same("inlet " + k, board.marbles(2), 8 - k);
            board.tick(1);
        }
        MarbleBoard lifted = Check.frozen(Check.columns(0, 2), "\\.X", ".Ba");
        lifted.roll(0);
        Check.same("from a lift straight", lifted.tick(4), 1);
    }

    private static void tickRefuses() {
        MarbleBoard board = Check.board("|", "a");
        Check.refusesState("tick before freeze", () -> board.tick(1));
        Check.refusesState("tick before freeze with a bad number", () -> board.tick(65));
        board.inlet(0, 0);
        board.freeze();
        board.roll(0);
        for (int n : new int[] {-1, 65, Integer.MIN_VALUE, Integer.MAX_VALUE}) {
            Check.refusesArgument("tick(" + n + ")", () -> board.tick(n));
        }
        places("nothing moved", board, 0);
        Check.same("tick(0)", board.tick(0), 0);
        places("nothing moved by tick(0)", board, 0);
        Check.same("tick(64)", board.tick(64), 1);
        MarbleBoard laps = Check.frozen(Check.columns(0), "|", "|", "|", "|", "A");
        laps.roll(0);
        laps.tick(64);
        places("64 ticks", laps, 4);
        laps.tick(63);
        places("63 ticks", laps, 2);
    }

    private static void marblesTellsPlaces() {
        MarbleBoard board = Check.frozen(Check.columns(2, 9), "..\\......|", "...|.....|", "...a.....b");
        board.roll(1);
        board.roll(0);
        places("in row 0", board, 9, 2);
        board.tick(1);
        places("in row 1", board, 19, 13);
        board.tick(1);
        places("in row 2", board, 29, 23);
    }

    private static void marblesTellsHeld() {
        MarbleBoard board = Check.frozen(Check.columns(0, 1), "0|", "aa");
        Check.same("no tick yet", board.marbles(1), 0);
        board.roll(0);
        Check.same("no tick, one marble", board.marbles(1), 0);
        board.tick(1);
        Check.same("held", board.marbles(1), 1);
        board.tick(0);
        Check.same("tick(0) is none", board.marbles(1), 1);
        board.roll(1);
        Check.same("roll is none", board.marbles(1), 1);
        board.turn(0, 0, 1);
        Check.same("turn is none", board.marbles(1), 1);
        board.explore(3);
        board.canReach(0, 0);
        Check.same("a search is none", board.marbles(1), 1);
        board.tick(1);
        Check.same("none held", board.marbles(1), 0);
        heldOutlivesTheMarbles();
    }

    private static void heldOutlivesTheMarbles() {
        MarbleBoard board = Check.frozen(Check.columns(0, 2), "\\./", ".|.", ".a.");
        board.roll(0);
        board.roll(1);
        board.tick(1);
        Check.same("one held where two meet", board.marbles(1), 1);
        Check.same("four ticks", board.tick(4), 2);
        Check.same("none held in the latest", board.marbles(1), 0);
        board.roll(0);
        board.roll(1);
        board.tick(1);
        board.freeze();
        Check.same("freeze ends it", board.marbles(1), 0);
    }

    private static void marblesRefuses() {
        MarbleBoard board = Check.frozen(Check.columns(0), "a");
        for (int what : new int[] {-1, 2, 3, 8, Integer.MIN_VALUE, Integer.MAX_VALUE}) {
            Check.refusesArgument("marbles(" + what + ")", () -> board.marbles(what));
        }
        board.roll(0);
        Check.same("the first marble", board.marbles(2), 0);
        Check.refusesArgument("the second marble", () -> board.marbles(3));
        board.tick(1);
        Check.refusesArgument("the first marble, gone", () -> board.marbles(2));
    }
}
