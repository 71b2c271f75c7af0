import java.util.ArrayList;
import java.util.List;
import java.util.function.Consumer;
import java.util.function.Supplier;

/**
 * "Exceptions are thrown in the order in which a method names them; a call that throws changes nothing." Every call that
 * a method refuses, on boards in all conditions: it throws what is due, and all that other calls answer afterwards is as
 * if it had not been made.
 */
public final class RefusalTest {
    private static final String ALL = "./\\|XabcdABCD<>[]0123s";
    private static final int[] NO_INLETS = {};

    /** A board with what decides which exception is due. */
    private record Condition(String name, Supplier<MarbleBoard> make, int w, int h, boolean frozen, boolean crowded,
        int inputs, int[] inlets) {
        boolean hasInlet(int k) {
            for (int inlet : inlets) {
                if (inlet == k) {
                    return true;
                }
            }
            return false;
        }
    }

    private record Refused(String name, long due, Consumer<MarbleBoard> call) {
    }

    private final Condition on;
    private final List<Refused> calls = new ArrayList<>();

    private RefusalTest(Condition on) {
        this.on = on;
    }

    public static void main(String[] args) {
        for (Condition condition : conditions()) {
            new RefusalTest(condition).refuseAll();
        }
        Check.end();
    }

    private static List<Condition> conditions() {
        int[] two = {0, 2};
        int[] one = {0};
        return List.of(
            new Condition("a new board", MarbleBoard::new, 1, 1, false, false, 0, NO_INLETS),
            new Condition("a mixed board", Boards::mixed, 5, 4, false, false, 0, two),
            new Condition("a board without inlets", RefusalTest::withoutInlets, 5, 4, false, false, 0, NO_INLETS),
            new Condition("a played board", Boards::played, 5, 4, true, false, 0, two),
            new Condition("a crowded board", Boards::crowded, 5, 4, true, true, 0, two),
            new Condition("a full board", Boards::full, 2, 8, true, true, 0, new int[] {0, 1}),
            new Condition("a board built again", RefusalTest::builtAgain, 5, 4, false, false, 0, two),
            new Condition("a board with a hole", RefusalTest::withAHole, 5, 4, false, false, 0, two),
            new Condition("a counter", RefusalTest::counter, 5, 5, true, false, 0, one),
            new Condition("a table", RefusalTest::table, 7, 5, true, false, 2, one),
            new Condition("a table with a marble", RefusalTest::tableWithAMarble, 7, 5, true, true, 2, one));
    }

    private static MarbleBoard withoutInlets() {
        MarbleBoard board = Boards.mixed();
        board.inlet(0, -1);
        board.inlet(2, -1);
        return board;
    }

    private static MarbleBoard builtAgain() {
        MarbleBoard board = Boards.played();
        board.cell(4, 0, '|');
        return board;
    }

    private static MarbleBoard withAHole() {
        MarbleBoard board = Boards.played();
        board.cell(4, 3, '|');
        Check.same("a board with a hole is not frozen", board.freeze(), 0);
        return board;
    }

    private static MarbleBoard counter() {
        MarbleBoard board = new MarbleBoard();
        board.counter(3);
        board.drop(0);
        board.drop(0);
        board.drop(0);
        return board;
    }

    private static MarbleBoard table() {
        MarbleBoard board = new MarbleBoard();
        for (int r = 0; r < 8; r++) {
            board.tell(r, r * r % 4 + r % 3);
        }
        board.table(2);
        board.drop(0);
        board.input(0, 1);
        board.tell(1, 2);
        return board;
    }

    private static MarbleBoard tableWithAMarble() {
        MarbleBoard board = table();
        board.roll(0);
        board.tick(1);
        return board;
    }

    private void refuseAll() {
        listBuilding();
        listCells();
        listStates();
        listNumbers();
        listLayouts();
        for (Refused refused : calls) {
            String what = refused.name + " on " + on.name;
            MarbleBoard board = on.make.get();
            Check.same(what, Check.answer(() -> Check.run(() -> refused.call.accept(board))), refused.due);
            Probe.changesNothing(what, on.make, refused.call);
        }
    }

    private void add(String name, long due, Consumer<MarbleBoard> call) {
        calls.add(new Refused(name, due, call));
    }

    private void argument(String name, Consumer<MarbleBoard> call) {
        add(name, Check.ARGUMENT, call);
    }

    private void listBuilding() {
        for (int n : Check.beside(1, 16)) {
            argument("board(" + n + ", 1)", b -> b.board(n, 1));
            argument("board(1, " + n + ")", b -> b.board(1, n));
            argument("board(" + n + ", " + n + ")", b -> b.board(n, n));
        }
        listRows();
        listPatterns();
        for (int k : Check.beside(0, 3)) {
            argument("inlet(" + k + ", 0)", b -> b.inlet(k, 0));
            argument("inlet(" + k + ", -1)", b -> b.inlet(k, -1));
        }
        for (int x : Check.beside(-1, on.w - 1)) {
            argument("inlet(0, " + x + ")", b -> b.inlet(0, x));
            argument("inlet(3, " + x + ")", b -> b.inlet(3, x));
        }
    }

    private void listRows() {
        long fine = Check.bytes("||||||||", 0);
        for (int y : Check.beside(0, on.h - 1)) {
            argument("row(" + y + ")", b -> b.row(y, fine, fine));
        }
        for (int x = 0; x < on.w; x++) {
            long bad = fine ^ 1L << 8 * x;
            argument("a row that is wrong in column " + x, b -> b.row(on.h - 1, bad, fine));
        }
        for (long half : new long[] {0, -1, Long.MIN_VALUE, Long.MAX_VALUE}) {
            argument("a row of " + half, b -> b.row(0, half, fine));
            argument("a row of twice " + half, b -> b.row(0, half, half));
        }
    }

    private void listPatterns() {
        boolean isMixed = on.w == 5 && on.h == 4;
        for (int place = 0; place < on.w * on.h; place++) {
            int x = place % on.w;
            int y = place / on.w;
            if (!isMixed || x != 1 || y != 1) {
                argument("pattern(" + x + ", " + y + ", 2, 1)", b -> b.pattern(x, y, 2, 1));
            }
        }
        for (int length : Check.beside(1, 8)) {
            argument("pattern(1, 1, " + length + ", 1)", b -> b.pattern(1, 1, length, 1));
        }
    }

    private void listCells() {
        for (int x : Check.beside(0, on.w - 1)) {
            argument("cell(" + x + ", 0, |)", b -> b.cell(x, 0, '|'));
            argument("pattern(" + x + ", 0, 2, 1)", b -> b.pattern(x, 0, 2, 1));
            argument("look(" + x + ", 0)", b -> b.look(x, 0));
            argument("value(" + x + ", 0)", b -> b.value(x, 0));
            argument("turn(" + x + ", 0, 0)", b -> b.turn(x, 0, 0));
        }
        for (int y : Check.beside(0, on.h - 1)) {
            argument("cell(0, " + y + ", |)", b -> b.cell(0, y, '|'));
            argument("pattern(0, " + y + ", 2, 1)", b -> b.pattern(0, y, 2, 1));
            argument("look(0, " + y + ")", b -> b.look(0, y));
            argument("value(0, " + y + ")", b -> b.value(0, y));
            argument("turn(0, " + y + ", 0)", b -> b.turn(0, y, 0));
        }
        argument("cell of the least character", b -> b.cell(0, 0, Character.MIN_VALUE));
        argument("cell of the greatest character", b -> b.cell(0, 0, Character.MAX_VALUE));
        for (char c : ALL.toCharArray()) {
            argument("cell of " + c + " and 256", b -> b.cell(0, 0, (char) (c + 256)));
        }
        listTurns();
    }

    /** Values are told by the board itself, as they differ from one cell to the next. */
    private void listTurns() {
        MarbleBoard seen = on.make.get();
        for (int place = 0; place < on.w * on.h; place++) {
            int x = place % on.w;
            int y = place / on.w;
            char c = seen.look(x, y);
            int most = c == 's' ? 4 : "0123".indexOf(c) >= 0 ? 3 : "<>[]".indexOf(c) >= 0 ? 1 : -1;
            for (int v : Check.beside(0, most)) {
                argument("turn(" + x + ", " + y + ", " + v + ")", b -> b.turn(x, y, v));
            }
            if (most < 0) {
                argument("value(" + x + ", " + y + ")", b -> b.value(x, y));
            }
        }
    }

    /** Calls with arguments that are right, which only the board's condition refuses. */
    private void listStates() {
        if (on.inlets.length == 0) {
            add("freeze()", Check.STATE, b -> b.freeze());
        }
        if (!on.frozen || on.crowded) {
            add("undo()", Check.STATE, b -> b.undo());
            add("drop(0)", Check.STATE, b -> b.drop(0));
            add("jam(1)", Check.STATE, b -> b.jam(1));
            add("jam(3)", Check.STATE, b -> b.jam(3));
        }
        if (!on.frozen) {
            add("roll(0)", Check.STATE, b -> b.roll(0));
            add("tick(0)", Check.STATE, b -> b.tick(0));
            add("tick(64)", Check.STATE, b -> b.tick(64));
            add("explore(1)", Check.STATE, b -> b.explore(1));
            add("explore(400)", Check.STATE, b -> b.explore(400));
            add("canReach(0, 0)", Check.STATE, b -> b.canReach(0, 0));
        }
        if (on.inputs == 0) {
            add("input(0, 0)", Check.STATE, b -> b.input(0, 0));
            add("input(0, 1)", Check.STATE, b -> b.input(0, 1));
        }
    }

    /** Wrong numbers, where the board's condition is asked for first. */
    private void listNumbers() {
        long asked = on.frozen ? Check.ARGUMENT : Check.STATE;
        long askedAlone = on.frozen && !on.crowded ? Check.ARGUMENT : Check.STATE;
        for (int k : new int[] {0, 1, 2, 3, -1, 4, Integer.MIN_VALUE, Integer.MAX_VALUE}) {
            if (!on.hasInlet(k)) {
                add("drop(" + k + ")", askedAlone, b -> b.drop(k));
                add("roll(" + k + ")", asked, b -> b.roll(k));
                add("canReach(" + k + ", 0)", asked, b -> b.canReach(k, 0));
                add("canReach(" + k + ", 4)", asked, b -> b.canReach(k, 4));
            }
        }
        for (int o : Check.beside(0, 3)) {
            add("canReach(0, " + o + ")", asked, b -> b.canReach(0, o));
            argument("count(" + o + ")", b -> b.count(o));
        }
        for (int n : Check.beside(0, 64)) {
            add("tick(" + n + ")", asked, b -> b.tick(n));
        }
        for (int limit : Check.beside(1, 400)) {
            add("explore(" + limit + ")", asked, b -> b.explore(limit));
        }
        for (int many : Check.beside(1, 3)) {
            add("jam(" + many + ")", askedAlone, b -> b.jam(many));
        }
        for (int what : Check.beside(0, 1 + on.make.get().marbles(0))) {
            argument("marbles(" + what + ")", b -> b.marbles(what));
        }
    }

    private void listLayouts() {
        for (int bits : Check.beside(1, 8)) {
            argument("counter(" + bits + ")", b -> b.counter(bits));
        }
        for (int inputs : Check.beside(1, 3)) {
            argument("table(" + inputs + ")", b -> b.table(inputs));
        }
        for (int r : Check.beside(0, 7)) {
            argument("tell(" + r + ", 3)", b -> b.tell(r, 3));
        }
        for (int v : Check.beside(0, 3)) {
            argument("tell(0, " + v + ")", b -> b.tell(0, v));
            argument("tell(7, " + v + ")", b -> b.tell(7, v));
        }
        long asked = on.inputs > 0 ? Check.ARGUMENT : Check.STATE;
        for (int i : Check.beside(0, on.inputs - 1)) {
            add("input(" + i + ", 0)", asked, b -> b.input(i, 0));
        }
        for (int v : Check.beside(0, 1)) {
            add("input(0, " + v + ")", asked, b -> b.input(0, v));
        }
    }
}
