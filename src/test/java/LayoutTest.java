/** Promises 21 to 24: counter, tell, table and input. */
public final class LayoutTest {
    public static void main(String[] args) {
        counterLooks();
        counterCounts();
        counterStartsAnew();
        counterRefuses();
        tellGivesValues();
        tellRefuses();
        tableLooksUp();
        tableStartsAnew();
        tableRefuses();
        inputLeansAllLatches();
        inputIsNoBuilding();
        inputNeedsATable();
        inputRefuses();
        Check.end();
    }

    private static void counterLooks() {
        MarbleBoard board = new MarbleBoard();
        board.counter(3);
        Check.looksLike("counter(3)", board, ".<...", "|.<..", "||.<.", "|||.|", "aaa.b");
    }

    private static void counterCounts() {
        for (int bits = 1; bits <= 8; bits++) {
            MarbleBoard board = new MarbleBoard();
            board.counter(bits);
            Check.same("frozen", Check.isFrozen(board), true);
            for (int n = 1; n <= 1 << bits; n++) {
                Check.same("drop " + n + " of " + bits, board.drop(0), n == 1 << bits ? 1 : 0);
                // Not after each one: an object is used for 512 calls only.
                if (bits < 7 || n % 16 == 15 || n == 1 << bits) {
                    Check.same("bits after " + n, counted(board, bits), n & (1 << bits) - 1);
                }
            }
        }
    }

    private static int counted(MarbleBoard board, int bits) {
        int counted = 0;
        for (int i = 0; i < bits; i++) {
            counted |= board.value(i + 1, i) << i;
        }
        return counted;
    }

    private static void counterStartsAnew() {
        checkStartsAnew("counter", board -> board.counter(2));
    }

    private static void tableStartsAnew() {
        checkStartsAnew("table", board -> board.table(1));
    }

    /** Whatever was before, with marbles, counts, inlets and drops. */
    private static void checkStartsAnew(String what, java.util.function.Consumer<MarbleBoard> lays) {
        MarbleBoard board = Check.frozen(Check.columns(0, 1, 2, 3), "0bcd", "a...");
        board.drop(1);
        board.drop(2);
        board.roll(0);
        board.tick(1);
        lays.accept(board);
        Check.same(what + " freezes", Check.isFrozen(board), true);
        Check.same(what + ": marbles", board.marbles(0), 0);
        Check.same(what + ": held", board.marbles(1), 0);
        Check.same(what + ": count", board.count(1) + board.count(2), 0);
        Check.same(what + ": nothing to be undone", board.undo(), false);
        for (int k = 1; k < 4; k++) {
            int inlet = k;
            Check.refusesArgument(what + ": no inlet " + k, () -> board.drop(inlet));
        }
        Check.same(what + ": inlet 0", board.drop(0), 0);
        Check.same(what + ": hole", board.hole(), MarbleBoard.NONE);
    }

    private static void counterRefuses() {
        MarbleBoard board = Check.frozen(Check.columns(0), "a");
        for (int bits : new int[] {0, 9, -1, Integer.MIN_VALUE, Integer.MAX_VALUE}) {
            Check.refusesArgument("counter(" + bits + ")", () -> board.counter(bits));
        }
        Check.looksLike("after refused counters", board, "a");
        Check.same("still frozen", Check.isFrozen(board), true);
    }

    private static MarbleBoard told(int... values) {
        MarbleBoard board = new MarbleBoard();
        for (int r = 0; r < values.length; r++) {
            board.tell(r, values[r]);
        }
        return board;
    }

    private static void tellGivesValues() {
        MarbleBoard board = told(3, 2);
        board.table(1);
        Check.looksLike("told", board, ".[.", "d.c");
        board.tell(0, 1);
        Check.looksLike("told again, not laid out", board, ".[.", "d.c");
        Check.same("tell is no building", Check.isFrozen(board), true);
        Check.same("and keeps the table", Check.answer(() -> lean(board, 0, 1)), 0);
        board.board(2, 2);
        board.table(1);
        Check.looksLike("laid out again", board, ".[.", "b.c");
        board.tell(1, 0);
        board.table(1);
        Check.looksLike("and again", board, ".[.", "b.a");
    }

    private static long lean(MarbleBoard board, int i, int v) {
        board.input(i, v);
        return 0;
    }

    private static void tellRefuses() {
        MarbleBoard board = told(1, 1, 1, 1, 1, 1, 1, 1);
        int[][] bad = {{-1, 0}, {8, 0}, {0, -1}, {0, 4}, {7, 4}, {Integer.MAX_VALUE, 0}, {0, Integer.MIN_VALUE}};
        for (int[] pair : bad) {
            Check.refusesArgument("tell(" + pair[0] + ", " + pair[1] + ")", () -> board.tell(pair[0], pair[1]));
        }
        board.table(3);
        Check.same("after refusals", Check.seen(board).endsWith("b.b.b.b.b.b.b.b\n"), true);
    }

    private static void tableLooksUp() {
        int[] values = {2, 0, 3, 1, 1, 3, 0, 2};
        for (int inputs = 1; inputs <= 3; inputs++) {
            MarbleBoard board = told(values);
            board.table(inputs);
            for (int r = (1 << inputs) - 1; r >= 0; r--) {
                for (int i = 0; i < inputs; i++) {
                    board.input(i, r >> inputs - 1 - i & 1);
                }
                Check.same("row " + r + " of " + inputs + " inputs", board.drop(0), values[r]);
                Check.same("no run turns a latch", board.explore(1), 1);
            }
        }
    }

    private static void tableRefuses() {
        MarbleBoard board = told(1, 2);
        board.table(1);
        for (int inputs : new int[] {0, 4, -1, Integer.MIN_VALUE, Integer.MAX_VALUE}) {
            Check.refusesArgument("table(" + inputs + ")", () -> board.table(inputs));
        }
        Check.looksLike("after refused tables", board, ".[.", "b.c");
        Check.same("still a table", Check.answer(() -> lean(board, 0, 1)), 0);
    }

    private static void inputLeansAllLatches() {
        MarbleBoard board = told(0, 1, 2, 3);
        board.table(3);
        board.input(2, 1);
        Check.same("row 8", Check.seenRow(board, 8), ".]...]...]...].");
        board.input(1, 1);
        Check.same("row 5", Check.seenRow(board, 5), "...].......]...");
        Check.same("row 0", Check.seenRow(board, 0), ".......[.......");
        board.input(0, 1);
        Check.same("row 0 then", Check.seenRow(board, 0), ".......].......");
        board.turn(5, 8, 0);
        board.input(2, 1);
        Check.same("row 8 after a turn", Check.seenRow(board, 8), ".]...]...]...].");
        board.input(2, 0);
        Check.same("row 8 leaning back", Check.seenRow(board, 8), ".[...[...[...[.");
        Check.same("row 5 as it was", Check.seenRow(board, 5), "...].......]...");
        board.table(2);
        board.input(1, 1);
        Check.looksLike("table(2)", board, "...[...", "../.\\..", ".|...|.", ".]...].", "a.b.c.d");
        board.table(2);
        Check.looksLike("table(2) anew", board, "...[...", "../.\\..", ".|...|.", ".[...[.", "a.b.c.d");
    }

    private static void inputIsNoBuilding() {
        MarbleBoard board = told(0, 1);
        board.table(1);
        board.drop(0);
        board.roll(0);
        board.input(0, 1);
        Check.same("frozen", Check.isFrozen(board), true);
        Check.same("the marble stays", board.marbles(0), 1);
        Check.same("and goes where the latch leans", board.tick(2), 1);
        Check.same("count a", board.count(0), 1);
        Check.same("count b", board.count(1), 1);
        Check.same("undo", board.undo(), true);
        Check.same("the lean before the drop", board.value(1, 0), 0);
    }

    private static void inputNeedsATable() {
        MarbleBoard board = new MarbleBoard();
        Check.refusesState("no table at all", () -> board.input(0, 0));
        Check.refusesState("no table at all, bad input", () -> board.input(5, 5));
        board.table(1);
        Check.same("freeze keeps the table", board.freeze(), 1);
        Check.same("input after freeze", Check.answer(() -> lean(board, 0, 1)), 0);
        Check.same("it leans", board.value(1, 0), 1);
        notATable("board", board, b -> b.board(3, 2));
        notATable("row", board, b -> b.row(1, Check.bytes("a.a", 0), 0));
        notATable("cell", board, b -> b.cell(1, 0, '['));
        notATable("inlet", board, b -> b.inlet(0, 1));
        notATable("counter", board, b -> b.counter(1));
        MarbleBoard same = Check.frozen(Check.columns(1), ".[.", "a.a");
        Check.refusesState("a board that only looks like a table", () -> same.input(0, 0));
    }

    private static void notATable(String what, MarbleBoard board, java.util.function.Consumer<MarbleBoard> builds) {
        board.table(1);
        builds.accept(board);
        Check.refusesState("input after " + what, () -> board.input(0, 0));
        Check.refusesState("bad input after " + what, () -> board.input(7, 7));
        board.board(3, 2);
        Check.lay(board, ".[.", "a.a");
        board.inlet(0, 1);
        board.freeze();
        Check.refusesState("input after " + what + " and freeze", () -> board.input(0, 0));
    }

    private static void inputRefuses() {
        MarbleBoard board = new MarbleBoard();
        for (int inputs = 1; inputs <= 3; inputs++) {
            board.table(inputs);
            board.input(inputs - 1, 1);
            String before = Check.seen(board);
            for (int i : new int[] {-1, inputs, 4, Integer.MIN_VALUE, Integer.MAX_VALUE}) {
                Check.refusesArgument("input(" + i + ") of " + inputs, () -> board.input(i, 0));
            }
            for (int v : new int[] {-1, 2, Integer.MIN_VALUE, Integer.MAX_VALUE}) {
                Check.refusesArgument("input to " + v, () -> board.input(0, v));
            }
            Check.same("after refused inputs", Check.seen(board), before);
        }
    }
}
