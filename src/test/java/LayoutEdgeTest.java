import java.util.function.Consumer;

/** The boundary cases of promises 21 to 24, a test for each sentence, which stands above it. */
public final class LayoutEdgeTest {
    public static void main(String[] args) {
        counterOfOneBit();
        counterOfEightBits();
        counterGoesRound();
        counterFreezes();
        counterRefusesBits();
        tellFirstAndLastRow();
        tellLeastAndGreatestValue();
        tellIsNoBuilding();
        tellRefusesRows();
        tellRefusesValues();
        tableOfOneInput();
        tableOfTwoInputs();
        tableOfThreeInputs();
        tableLeansToTheLeft();
        tableSendsToTheOutletOfItsRow();
        tableFreezes();
        tableRefusesInputs();
        inputFirstAndLast();
        inputIsNoBuilding();
        inputNeedsAFrozenBoard();
        inputNeedsATable();
        inputRefusesInputs();
        inputRefusesValues();
        Check.end();
    }

    /** Promise 21, the smallest: "w is bits + 2, h bits + 2, inlet 0 in column 1" */
    private static void counterOfOneBit() {
        MarbleBoard board = new MarbleBoard();
        board.counter(1);
        Check.looksLike("counter(1)", board, ".<.", "|.|", "a.b");
        board.roll(0);
        Check.same("inlet 0", board.marbles(2), 1);
    }

    /** Promise 21, the largest: "w is bits + 2, h bits + 2, inlet 0 in column 1" */
    private static void counterOfEightBits() {
        MarbleBoard board = new MarbleBoard();
        board.counter(8);
        Check.looksLike("counter(8)", board,
            ".<........", "|.<.......", "||.<......", "|||.<.....", "||||.<....",
            "|||||.<...", "||||||.<..", "|||||||.<.", "||||||||.|", "aaaaaaaa.b");
        board.roll(0);
        Check.same("inlet 0", board.marbles(2), 1);
    }

    /** A full counter sends to b and is empty again. */
    private static void counterGoesRound() {
        for (int bits = 1; bits <= 8; bits++) {
            MarbleBoard board = new MarbleBoard();
            board.counter(bits);
            for (int i = 0; i < bits; i++) {
                Check.same("bit " + i + " of an empty counter", board.turn(i + 1, i, 1), 0);
            }
            Check.same("the last one of " + bits, board.drop(0), 1);
            for (int i = 0; i < bits; i++) {
                Check.same("bit " + i + " behind the last one", board.value(i + 1, i), 0);
            }
            Check.same("the first one of " + bits, board.drop(0), 0);
            Check.same("its bit", board.value(1, 0), 1);
        }
    }

    /** Promise 21: "Builds, and freezes" */
    private static void counterFreezes() {
        checkLaidOut("counter(1)", b -> b.counter(1));
        checkLaidOut("counter(8)", b -> b.counter(8));
    }

    /** Whatever the board was before, it is frozen anew, without marbles, counts, drops to be undone and other inlets. */
    private static void checkLaidOut(String what, Consumer<MarbleBoard> lays) {
        MarbleBoard[] boards = {new MarbleBoard(), Boards.mixed(), Boards.played(), Boards.crowded(), Boards.full()};
        for (MarbleBoard board : boards) {
            lays.accept(board);
            Check.same(what + " is frozen", Check.isFrozen(board), true);
            Check.same(what + ", marbles", board.marbles(0), 0);
            Check.same(what + ", held", board.marbles(1), 0);
            Check.same(what + ", undo", board.undo(), false);
            for (int o = 0; o < 4; o++) {
                Check.same(what + ", count " + o, board.count(o), 0);
            }
            for (int k = 1; k < 4; k++) {
                int inlet = k;
                Check.refusesArgument(what + ", inlet " + k, () -> board.drop(inlet));
            }
            Check.same(what + ", a run", board.drop(0), 0);
            Check.same(what + ", undo of it", board.undo(), true);
        }
    }

    /** Promise 21: "IllegalArgumentException: bits is not 1 .. 8." */
    private static void counterRefusesBits() {
        for (int bits : Check.beside(1, 8)) {
            Check.refusesArgument("counter(" + bits + ")", () -> new MarbleBoard().counter(bits));
            Probe.changesNothing("counter(" + bits + ")", Boards::crowded, b -> b.counter(bits));
            Probe.changesNothing("counter(" + bits + ") on a table", LayoutEdgeTest::table, b -> b.counter(bits));
        }
    }

    private static MarbleBoard told(int... values) {
        MarbleBoard board = new MarbleBoard();
        for (int r = 0; r < values.length; r++) {
            board.tell(r, values[r]);
        }
        return board;
    }

    private static MarbleBoard table() {
        MarbleBoard board = told(3, 0, 2, 1, 1, 2, 0, 3);
        board.table(2);
        board.drop(0);
        board.input(1, 1);
        return board;
    }

    /** Promise 22: "Row r of the table gets a value.", the first and the last row */
    private static void tellFirstAndLastRow() {
        MarbleBoard board = new MarbleBoard();
        board.tell(0, 1);
        board.tell(7, 2);
        board.table(3);
        Check.same("the outlets", Check.seen(board).substring(9 * 16), "b.a.a.a.a.a.a.c\n");
    }

    /** Promise 22: "Row r of the table gets a value.", the least and the greatest */
    private static void tellLeastAndGreatestValue() {
        for (int r = 0; r < 8; r++) {
            MarbleBoard board = told(1, 1, 1, 1, 1, 1, 1, 1);
            board.tell(r, 3);
            board.table(3);
            for (int other = 0; other < 8; other++) {
                Check.same("row " + other + " with 3 in row " + r, board.look(2 * other, 9), other == r ? 'd' : 'b');
            }
            board.tell(r, 0);
            board.table(3);
            Check.same("row " + r + " with 0", board.look(2 * r, 9), 'a');
        }
    }

    /** It does not say that it builds: all is as it was, but for the next table. */
    private static void tellIsNoBuilding() {
        MarbleBoard board = Boards.crowded();
        board.tell(0, 3);
        Check.same("still frozen", Check.isFrozen(board), true);
        Check.same("its marbles", board.marbles(0), 2);
        Check.same("its held", board.marbles(1), 1);
        MarbleBoard table = table();
        String before = Check.seen(table);
        table.tell(0, 0);
        Check.same("the table that was laid out", Check.seen(table), before);
        table.input(0, 1);
        Check.same("it is a table still", table.value(3, 0), 1);
        table.table(2);
        Check.same("the next one", table.look(0, 4), 'a');
        Probe.changesNothing("telling what was told", LayoutEdgeTest::table, b -> b.tell(7, 3));
    }

    /** Promise 22: "IllegalArgumentException: r is not 0 .. 7" */
    private static void tellRefusesRows() {
        for (int r : Check.beside(0, 7)) {
            for (int v : new int[] {0, 3, -1, 4}) {
                Check.refusesArgument("tell(" + r + ", " + v + ")", () -> table().tell(r, v));
                Probe.changesNothing("tell(" + r + ", " + v + ")", LayoutEdgeTest::table, b -> b.tell(r, v));
            }
        }
    }

    /** Promise 22: "or v not 0 .. 3" */
    private static void tellRefusesValues() {
        for (int v : Check.beside(0, 3)) {
            for (int row = 0; row < 8; row++) {
                int r = row;
                Check.refusesArgument("tell(" + r + ", " + v + ")", () -> table().tell(r, v));
                Probe.changesNothing("tell(" + r + ", " + v + ")", LayoutEdgeTest::table, b -> b.tell(r, v));
            }
        }
    }

    /** Promise 23, the smallest: "w is 2 * 2^inputs - 1, h is 2^inputs + inputs - 1, inlet 0 in the middle column" */
    private static void tableOfOneInput() {
        MarbleBoard board = told(3, 2, 1, 1, 1, 1, 1, 1);
        board.table(1);
        Check.looksLike("table(1)", board, ".[.", "d.c");
        board.roll(0);
        Check.same("inlet 0", board.marbles(2), 1);
    }

    /** Promise 23: "otherwise / in (x - q, y + q) and \ in (x + q, y + q) for each q from 1 to D - 1" */
    private static void tableOfTwoInputs() {
        MarbleBoard board = told(3, 2, 1, 0, 1, 1, 1, 1);
        board.table(2);
        Check.looksLike("table(2)", board, "...[...", "../.\\..", ".|...|.", ".[...[.", "d.c.b.a");
        board.roll(0);
        Check.same("inlet 0", board.marbles(2), 3);
    }

    /** Promise 23, the largest: "w is 2 * 2^inputs - 1, h is 2^inputs + inputs - 1, inlet 0 in the middle column" */
    private static void tableOfThreeInputs() {
        MarbleBoard board = told(0, 1, 2, 3, 3, 2, 1, 0);
        board.table(3);
        Check.looksLike("table(3)", board,
            ".......[.......",
            "....../.\\......",
            "...../...\\.....",
            "..../.....\\....",
            "...|.......|...",
            "...[.......[...",
            "../.\\...../.\\..",
            ".|...|...|...|.",
            ".[...[...[...[.",
            "a.b.c.d.d.c.b.a");
        board.roll(0);
        Check.same("inlet 0", board.marbles(2), 7);
    }

    /** Promise 23: "All latches lean to the left." */
    private static void tableLeansToTheLeft() {
        MarbleBoard board = new MarbleBoard();
        for (int inputs = 1; inputs <= 3; inputs++) {
            board.table(inputs);
            String first = Check.seen(board);
            for (int i = 0; i < inputs; i++) {
                board.input(i, 1);
            }
            board.table(inputs);
            Check.same("table(" + inputs + ") laid out again", Check.seen(board), first);
            Check.same("no latch leans to the right", first.indexOf(']'), -1);
        }
    }

    /** Promise 23: "(so a marble comes to the outlet of row r, when r has the leans as bits, that of input 0 the highest)" */
    private static void tableSendsToTheOutletOfItsRow() {
        for (int inputs = 1; inputs <= 3; inputs++) {
            for (int r = 0; r < 1 << inputs; r++) {
                MarbleBoard board = new MarbleBoard();
                board.tell(r, 3);
                board.table(inputs);
                for (int lean = 0; lean < 1 << inputs; lean++) {
                    for (int i = 0; i < inputs; i++) {
                        board.input(i, lean >> inputs - 1 - i & 1);
                    }
                    String what = "leans " + lean + " of " + inputs + " inputs with 3 in row " + r;
                    Check.same(what, board.drop(0), lean == r ? 3 : 0);
                    Check.same(what + ", the latches stay", board.explore(1), 1);
                }
            }
        }
    }

    /** Promise 23: "Builds, and freezes" */
    private static void tableFreezes() {
        checkLaidOut("table(1)", b -> b.table(1));
        checkLaidOut("table(3)", b -> b.table(3));
    }

    /** Promise 23: "IllegalArgumentException: inputs is not 1 .. 3." */
    private static void tableRefusesInputs() {
        for (int inputs : Check.beside(1, 3)) {
            Check.refusesArgument("table(" + inputs + ")", () -> new MarbleBoard().table(inputs));
            Probe.changesNothing("table(" + inputs + ")", Boards::crowded, b -> b.table(inputs));
            Probe.changesNothing("table(" + inputs + ") on a table", LayoutEdgeTest::table, b -> b.table(inputs));
        }
    }

    /** Promise 24: "All latches of input i of the table that was laid out lean to v." */
    private static void inputFirstAndLast() {
        int[][] latchRows = {{0}, {0, 3}, {0, 5, 8}};
        for (int inputs = 1; inputs <= 3; inputs++) {
            for (int i = 0; i < inputs; i++) {
                checkLeans(inputs, i, latchRows[inputs - 1]);
            }
        }
    }

    private static void checkLeans(int inputs, int i, int[] latchRows) {
        MarbleBoard board = new MarbleBoard();
        board.table(inputs);
        int[] values = {1, 1, 0};
        for (int v : values) {
            board.input(i, v);
            for (int other = 0; other < inputs; other++) {
                String row = Check.seenRow(board, latchRows[other]);
                String what = "row of input " + other + " with input " + i + " of " + inputs + " leaning to " + v;
                boolean leansRight = other == i && v == 1;
                Check.same(what + ", to the left", row.chars().filter(c -> c == '[').count(), leansRight ? 0 : 1 << other);
                Check.same(what + ", to the right", row.chars().filter(c -> c == ']').count(), leansRight ? 1 << other : 0);
            }
        }
    }

    private static void inputIsNoBuilding() {
        MarbleBoard board = table();
        board.roll(0);
        board.input(0, 1);
        Check.same("still frozen", Check.isFrozen(board), true);
        Check.same("its marble", board.marbles(0), 1);
        board.tick(64);
        Check.same("the drop before it can be undone", board.undo(), true);
        Check.same("which puts the leans back", board.value(3, 0), 0);
        Probe.changesNothing("input to where it leans", LayoutEdgeTest::table, b -> b.input(1, 1));
    }

    /** Promise 24: "IllegalStateException: the board is not frozen" */
    private static void inputNeedsAFrozenBoard() {
        int[][] pairs = {{0, 0}, {0, 1}, {-1, 0}, {2, 0}, {0, 2}, {Integer.MIN_VALUE, Integer.MAX_VALUE}};
        for (int[] pair : pairs) {
            String what = "input(" + pair[0] + ", " + pair[1] + ")";
            Check.refusesState(what + " on a new board", () -> new MarbleBoard().input(pair[0], pair[1]));
            MarbleBoard board = table();
            board.cell(0, 0, '.');
            String before = Check.seen(board);
            Check.refusesState(what + " after building", () -> board.input(pair[0], pair[1]));
            Check.same("the cells after it", Check.seen(board), before);
        }
    }

    /** Promise 24: "or is no table" */
    private static void inputNeedsATable() {
        noTableAnyMore("row", b -> b.row(0, Check.bytes("...[...", 0), 0));
        noTableAnyMore("cell", b -> b.cell(0, 0, '.'));
        noTableAnyMore("inlet", b -> b.inlet(0, 3));
        noTableAnyMore("counter", b -> b.counter(1));
        noTableAnyMore("board", LayoutEdgeTest::layLikeATable);
        MarbleBoard board = new MarbleBoard();
        layLikeATable(board);
        board.freeze();
        Check.refusesState("a board that looks like one", () -> board.input(0, 0));
        Check.refusesState("a counter", () -> counter().input(0, 0));
        MarbleBoard again = table();
        again.freeze();
        again.input(0, 1);
        Check.same("freeze alone leaves it a table", again.value(3, 0), 1);
    }

    private static void layLikeATable(MarbleBoard board) {
        Check.lay(board, "...[...", "../.\\..", ".|...|.", ".[...[.", "a.b.c.d");
        board.inlet(0, 3);
    }

    private static MarbleBoard counter() {
        MarbleBoard board = new MarbleBoard();
        board.counter(3);
        return board;
    }

    private static void noTableAnyMore(String what, Consumer<MarbleBoard> builds) {
        MarbleBoard board = table();
        builds.accept(board);
        Check.same(what + ", freeze", board.freeze(), 1);
        Check.refusesState("input after " + what, () -> board.input(0, 0));
        Check.refusesState("wrong input after " + what, () -> board.input(2, 2));
        board.table(1);
        board.input(0, 1);
        Check.same("input of the next table", board.value(1, 0), 1);
    }

    /** Promise 24: "IllegalArgumentException: there is no such input" */
    private static void inputRefusesInputs() {
        for (int inputs = 1; inputs <= 3; inputs++) {
            MarbleBoard board = new MarbleBoard();
            board.table(inputs);
            String before = Check.seen(board);
            for (int i : Check.beside(0, inputs - 1)) {
                Check.refusesArgument("input(" + i + ") of " + inputs, () -> board.input(i, 1));
            }
            Check.same("the cells after them", Check.seen(board), before);
        }
        for (int i : Check.beside(0, 1)) {
            Probe.changesNothing("input(" + i + ", 0)", LayoutEdgeTest::table, b -> b.input(i, 0));
        }
    }

    /** Promise 24: "or v is not 0 or 1" */
    private static void inputRefusesValues() {
        for (int v : Check.beside(0, 1)) {
            for (int input = 0; input < 2; input++) {
                int i = input;
                Check.refusesArgument("input(" + i + ", " + v + ")", () -> table().input(i, v));
                Probe.changesNothing("input(" + i + ", " + v + ")", LayoutEdgeTest::table, b -> b.input(i, v));
            }
        }
    }
}
