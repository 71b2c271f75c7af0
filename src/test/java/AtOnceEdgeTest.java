/** The boundary cases of promises 15 to 17, a test for each sentence, which stands above it. */
public final class AtOnceEdgeTest {
    public static void main(String[] args) {
        rollComesToTheCellBelowTheInlet();
        rollWhenThereAreSix();
        rollWhenOneIsInThatCell();
        rollThatIsFalseChangesNothing();
        rollNeedsAFrozenBoard();
        rollRefusesInlets();
        tickZeroTimes();
        tickSixtyFourTimes();
        tickTellsHowManyWereGone();
        tickMovesInTheOrderInWhichTheyCame();
        tickNeedsNoMarbles();
        tickNeedsAFrozenBoard();
        tickRefusesNumbers();
        marblesFromNoneToSix();
        heldInTheLatestTick();
        heldSinceACallThatBuilt();
        heldSinceFreeze();
        placesInTheirOrder();
        marblesRefusesWhatIsBelowZero();
        marblesRefusesWhatIsNotThere();
        Check.end();
    }

    /** Promise 15: "A marble more, at once, comes to the cell below inlet k: true" */
    private static void rollComesToTheCellBelowTheInlet() {
        MarbleBoard board = Check.frozen(Check.columns(0, 7, 8, 15), "XXXXXXXXXXXXXXXX", "aaaaaaaaaaaaaaaa");
        int[] columns = {0, 7, 8, 15};
        for (int k = 0; k < 4; k++) {
            Check.same("roll(" + k + ")", board.roll(k), true);
            Check.same("marbles after roll(" + k + ")", board.marbles(0), k + 1);
            Check.same("its place", board.marbles(2 + k), columns[k]);
        }
        Check.same("a tick", board.tick(1), 0);
        for (int k = 0; k < 4; k++) {
            Check.same("it came straight", board.marbles(2 + k), 16 + columns[k]);
        }
    }

    /** Promise 15: "false when there are 6" */
    private static void rollWhenThereAreSix() {
        MarbleBoard board = Check.frozen(Check.columns(0, 1, 2, 3), "||||", "0000", "abcd");
        for (int i = 0; i < 6; i++) {
            Check.same("roll " + i, board.roll(i % 4), true);
            board.tick(i == 3 ? 1 : 0);
        }
        Check.same("six", board.marbles(0), 6);
        Check.same("into a free cell", board.roll(2), false);
        Check.same("into another free cell", board.roll(3), false);
        Check.same("into a cell with a marble", board.roll(0), false);
        Check.same("still six", board.marbles(0), 6);
        board.turn(3, 1, 1);
        board.tick(1);
        Check.same("six with one in its outlet", board.roll(2), false);
        Check.same("one is gone", board.tick(1), 1);
        Check.same("five", board.marbles(0), 5);
        Check.same("the sixth", board.roll(2), true);
        Check.same("the seventh", board.roll(3), false);
    }

    /** Promise 15: "or one is in that cell" */
    private static void rollWhenOneIsInThatCell() {
        MarbleBoard board = Check.frozen(Check.columns(0, 0, 1, 2), "||D", "aC.");
        Check.same("the first", board.roll(0), true);
        Check.same("from the same inlet", board.roll(0), false);
        Check.same("from another inlet in its column", board.roll(1), false);
        Check.same("in the column beside", board.roll(2), true);
        board.tick(1);
        Check.same("the cell is free", board.roll(1), true);
        Check.same("and taken again", board.roll(0), false);
        Check.same("the cell below is free", board.roll(2), true);
        board.tick(1);
        board.tick(1);
        Check.same("one that was lifted is there", board.roll(2), false);
        Check.same("on a lift to itself", board.roll(3), true);
        board.tick(3);
        Check.same("it is there for ever", board.roll(3), false);
    }

    private static void rollThatIsFalseChangesNothing() {
        Probe.changesNothing("roll(0) of a full board", Boards::full, b -> b.roll(0));
        Probe.changesNothing("roll(1) of a full board", Boards::full, b -> b.roll(1));
        Probe.changesNothing("roll(0) of a crowded board", Boards::crowded, b -> b.roll(0));
        Check.same("roll(0) of a crowded board", Boards.crowded().roll(0), false);
    }

    /** Promise 15: "IllegalStateException: the board is not frozen" */
    private static void rollNeedsAFrozenBoard() {
        for (int k : new int[] {0, 2, 1, -1, 4, Integer.MIN_VALUE, Integer.MAX_VALUE}) {
            MarbleBoard board = Boards.mixed();
            Check.refusesState("roll(" + k + ") before freeze", () -> board.roll(k));
            Check.same("no marble", board.marbles(0), 0);
            board.freeze();
            Check.same("roll after freeze", board.roll(0), true);
            board.cell(3, 3, '.');
            Check.refusesState("roll(" + k + ") after building", () -> board.roll(k));
        }
    }

    /** Promise 15: "IllegalArgumentException: there is no inlet k" */
    private static void rollRefusesInlets() {
        for (int k : new int[] {1, 3, -1, 4, Integer.MIN_VALUE, Integer.MAX_VALUE}) {
            MarbleBoard board = Boards.crowded();
            Check.refusesArgument("roll(" + k + ")", () -> board.roll(k));
            Check.same("two marbles", board.marbles(0), 2);
        }
        MarbleBoard full = Boards.full();
        Check.refusesArgument("roll(2) with six", () -> full.roll(2));
        Check.refusesArgument("roll(4) with six", () -> full.roll(4));
    }

    /** Promise 16, n of 0: "So many ticks: how many marbles were gone by them." */
    private static void tickZeroTimes() {
        Check.same("tick(0) with two", Boards.crowded().tick(0), 0);
        Check.same("tick(0) with six", Boards.full().tick(0), 0);
        Check.same("tick(0) with none", Boards.played().tick(0), 0);
        Probe.changesNothing("tick(0) with two", Boards::crowded, b -> b.tick(0));
        Probe.changesNothing("tick(0) with six", Boards::full, b -> b.tick(0));
        Probe.changesNothing("tick(0) with none", Boards::played, b -> b.tick(0));
        MarbleBoard board = Check.frozen(Check.columns(0), "a");
        board.roll(0);
        Check.same("tick(0) with one in its outlet", board.tick(0), 0);
        Check.same("it is there still", board.marbles(0), 1);
        Check.same("it is not counted", board.count(0), 0);
    }

    /** Promise 16, n of 64: "So many ticks: how many marbles were gone by them." */
    private static void tickSixtyFourTimes() {
        for (int moves = 62; moves <= 66; moves++) {
            MarbleBoard board = Boards.withRunOf(moves);
            board.roll(0);
            boolean isGone = moves <= 64;
            Check.same("64 ticks of " + moves, board.tick(64), isGone ? 1 : 0);
            Check.same("marbles", board.marbles(0), isGone ? 0 : 1);
            Check.same("count", board.count(1), isGone ? 1 : 0);
            Check.same("64 ticks more", board.tick(64), isGone ? 0 : 1);
        }
        MarbleBoard board = Boards.withRunOf(64);
        board.roll(0);
        Check.same("63 ticks of 64", board.tick(63), 0);
        Check.same("one tick more", board.tick(1), 1);
    }

    /** Promise 16: "how many marbles were gone by them" */
    private static void tickTellsHowManyWereGone() {
        MarbleBoard board = Check.frozen(Check.columns(0, 1, 2, 3), "abcd");
        for (int many = 0; many <= 4; many++) {
            for (int k = 0; k < many; k++) {
                board.roll(k);
            }
            Check.same(many + " gone in one tick", board.tick(1), many);
            Check.same("none left of " + many, board.marbles(0), 0);
        }
        MarbleBoard full = Boards.full();
        full.turn(0, 6, 3);
        Check.same("three of six", full.tick(64), 3);
        full.turn(0, 6, 3);
        Check.same("the other three", full.tick(64), 3);
        Check.same("none of none", full.tick(64), 0);
        Check.same("all counted", full.count(0), 6);
    }

    /** "A TICK: each of them, in this order, moves on, if the cell to which it would go has no other one" */
    private static void tickMovesInTheOrderInWhichTheyCame() {
        MarbleBoard ahead = Check.frozen(Check.columns(0), "|", "|", "a");
        ahead.roll(0);
        ahead.tick(1);
        ahead.roll(0);
        ahead.tick(1);
        Check.same("the elder ahead leaves its cell first", ahead.marbles(3), 1);
        Check.same("so none is held", ahead.marbles(1), 0);
        Check.same("out of the outlet it is gone at once", ahead.tick(1), 1);
        Check.same("so the younger comes to the outlet", ahead.marbles(2), 2);
        MarbleBoard behind = Check.frozen(Check.columns(0, 1), "|a", "B.");
        behind.roll(0);
        behind.tick(1);
        behind.roll(1);
        Check.same("the younger goes out", behind.tick(1), 1);
        Check.same("but the elder was before it", behind.marbles(2), 2);
        Check.same("and was held", behind.marbles(1), 1);
        Check.same("it goes in the next tick", behind.tick(1), 0);
        Check.same("to the cell that was left", behind.marbles(2), 1);
        MarbleBoard itself = Check.frozen(Check.columns(0), "A");
        itself.roll(0);
        itself.tick(1);
        Check.same("its own cell has no other one", itself.marbles(1), 0);
    }

    private static void tickNeedsNoMarbles() {
        MarbleBoard board = Boards.played();
        Check.same("no marbles, one tick", board.tick(1), 0);
        Check.same("no marbles, 64 ticks", board.tick(64), 0);
        Probe.changesNothing("ticks with no marbles", Boards::played, b -> b.tick(64));
    }

    /** Promise 16: "IllegalStateException: the board is not frozen" */
    private static void tickNeedsAFrozenBoard() {
        for (int n : new int[] {0, 64, -1, 65, Integer.MIN_VALUE, Integer.MAX_VALUE}) {
            MarbleBoard board = Boards.crowded();
            board.cell(3, 3, '.');
            Check.refusesState("tick(" + n + ") after building", () -> board.tick(n));
            Check.refusesState("tick(" + n + ") on a new board", () -> new MarbleBoard().tick(n));
        }
    }

    /** Promise 16: "IllegalArgumentException: n is not 0 .. 64." */
    private static void tickRefusesNumbers() {
        for (int n : Check.beside(0, 64)) {
            MarbleBoard board = Boards.crowded();
            Check.refusesArgument("tick(" + n + ")", () -> board.tick(n));
            Check.same("the second marble", board.marbles(3), 0);
            Check.refusesArgument("tick(" + n + ") without marbles", () -> Boards.played().tick(n));
        }
    }

    /** Promise 17: "How many marbles there are (0)" */
    private static void marblesFromNoneToSix() {
        MarbleBoard board = Check.frozen(Check.columns(0), "|", "|", "|", "|", "|", "|", "0", "a");
        for (int many = 0; many <= 6; many++) {
            Check.same(many + " marbles", board.marbles(0), many);
            board.roll(0);
            board.tick(1);
        }
        Check.same("no seventh", board.marbles(0), 6);
        Check.same("of a new board", new MarbleBoard().marbles(0), 0);
        Probe.changesNothing("marbles", Boards::crowded, b -> b.marbles(0));
    }

    /** Promise 17: "how many were held in the latest tick (1" */
    private static void heldInTheLatestTick() {
        MarbleBoard board = Boards.full();
        Check.same("one tick moved the last one", board.marbles(1), 5);
        board.tick(1);
        Check.same("six held", board.marbles(1), 6);
        board.tick(0);
        Check.same("tick(0) is no tick", board.marbles(1), 6);
        board.turn(0, 6, 1);
        Check.same("turn is no tick", board.marbles(1), 6);
        board.tick(1);
        Check.same("all moved", board.marbles(1), 0);
        board.tick(2);
        Check.same("the latest of two ticks", board.marbles(1), 5);
        board.roll(1);
        Check.same("roll is no tick", board.marbles(1), 5);
        heldByTheLastTickOfMany();
    }

    /** Held in the first tick, but not in the last one; and a tick without any marble holds none. */
    private static void heldByTheLastTickOfMany() {
        MarbleBoard board = Check.frozen(Check.columns(0, 2), "\\./", ".|.", ".a.");
        board.roll(0);
        board.roll(1);
        board.tick(1);
        Check.same("one held where two meet", board.marbles(1), 1);
        board.tick(1);
        Check.same("none held then", board.marbles(1), 0);
        board.tick(64);
        Check.same("none held when all are gone", board.marbles(1), 0);
    }

    /** Promise 17: "0 when there was none since a call that built" */
    private static void heldSinceACallThatBuilt() {
        Check.same("of a new board", new MarbleBoard().marbles(1), 0);
        for (int call = 0; call < TermsEdgeTest.BUILDING_CALLS; call++) {
            MarbleBoard board = Boards.crowded();
            TermsEdgeTest.build(board, call);
            Check.same("after building call " + call, board.marbles(1), 0);
        }
        MarbleBoard board = Boards.crowded();
        board.cell(3, 3, '.');
        board.freeze();
        Check.same("after building and freeze", board.marbles(1), 0);
        board.turn(3, 0, 1);
        board.roll(2);
        Check.same("with a marble, before a tick", board.marbles(1), 0);
        board.tick(3);
        Check.same("held again", board.marbles(1), 1);
    }

    /** Promise 17: "or freeze()" */
    private static void heldSinceFreeze() {
        MarbleBoard board = Boards.crowded();
        board.freeze();
        Check.same("after freeze", board.marbles(1), 0);
        board.tick(0);
        Check.same("after tick(0)", board.marbles(1), 0);
        MarbleBoard hole = Boards.crowded();
        hole.cell(4, 3, '.');
        hole.freeze();
        Check.same("after freeze with a hole", hole.marbles(1), 0);
    }

    /** Promise 17: "the place of the i-th marble, in their order, from 0 (2 + i)" */
    private static void placesInTheirOrder() {
        MarbleBoard board = Check.frozen(Check.columns(0, 1, 2, 3), "||||", "0000", "abcd");
        for (int k = 3; k >= 0; k--) {
            board.roll(k);
        }
        board.tick(1);
        board.roll(2);
        board.roll(1);
        int[] due = {7, 6, 5, 4, 2, 1};
        checkPlaces("six", board, due);
        board.turn(1, 1, 1);
        board.tick(1);
        checkPlaces("the third and its follower moved on", board, 7, 6, 9, 4, 2, 5);
        Check.same("the third is gone", board.tick(1), 1);
        checkPlaces("those behind it move up", board, 7, 6, 4, 2, 5);
    }

    private static void checkPlaces(String what, MarbleBoard board, int... due) {
        Check.same(what + ", how many", board.marbles(0), due.length);
        for (int i = 0; i < due.length; i++) {
            Check.same(what + ", marble " + i, board.marbles(2 + i), due[i]);
        }
        Check.refusesArgument(what + ", one more", () -> board.marbles(2 + due.length));
    }

    /** Promise 17: "IllegalArgumentException: what is below 0" */
    private static void marblesRefusesWhatIsBelowZero() {
        for (MarbleBoard board : new MarbleBoard[] {new MarbleBoard(), Boards.played(), Boards.full()}) {
            for (int what : new int[] {-1, -2, -3, Integer.MIN_VALUE, Integer.MIN_VALUE + 1, Integer.MIN_VALUE + 2}) {
                Check.refusesArgument("marbles(" + what + ")", () -> board.marbles(what));
            }
        }
    }

    /** Promise 17: "or there is no such marble" */
    private static void marblesRefusesWhatIsNotThere() {
        Check.refusesArgument("the first of a new board", () -> new MarbleBoard().marbles(2));
        MarbleBoard board = Check.frozen(Check.columns(0), "|", "|", "|", "|", "|", "|", "0", "a");
        for (int many = 0; many <= 6; many++) {
            int behind = 2 + many;
            Check.refusesArgument("the one behind " + many, () -> board.marbles(behind));
            Check.refusesArgument("the greatest int with " + many, () -> board.marbles(Integer.MAX_VALUE));
            board.roll(0);
            board.tick(1);
        }
        Check.same("the sixth", board.marbles(7), 1);
        board.turn(0, 6, 1);
        board.tick(2);
        Check.refusesArgument("the sixth when one is gone", () -> board.marbles(7));
    }
}
