import java.util.ArrayList;
import java.util.List;
import java.util.function.Consumer;
import java.util.function.LongSupplier;
import java.util.function.Supplier;

/**
 * Asks a board all that calls can tell of it: first by such as change nothing, then by such as bring out what is hidden,
 * the patterns, the inlets, the drops to be undone and the table. Till the last it makes only calls that the board does
 * not refuse: a refused call that changed something would change it on each board that is asked, and so be hidden. It
 * stays below the 512 calls of an object on small boards.
 */
final class Probe {
    /** What a board of the same making accepts, found out on one that is not asked afterwards. */
    private static final class Facts {
        final int width;
        final int height;
        final boolean frozen;
        final int marbles;
        final int inputs;
        final boolean[] inlets = new boolean[4];
        /** It had none, so that it gets inlet 2 before it is asked to freeze. */
        final boolean lacksInlet;
        /** Column, row and greatest value of each moving cell. */
        final List<int[]> moving = new ArrayList<>();

        /** Whatever may be refused comes behind what it could hide. */
        Facts(MarbleBoard board) {
            marbles = board.marbles(0);
            frozen = Check.isFrozen(board);
            inputs = countInputs(board);
            String[] rows = Check.seen(board).split("\n");
            width = rows[0].length();
            height = rows.length;
            for (int place = 0; place < width * height; place++) {
                addIfMoving(board, place % width, place / width);
            }
            mend(board, width);
            lacksInlet = Check.answer(board::freeze) == Check.STATE;
            for (int k = 0; k < 4; k++) {
                int inlet = k;
                inlets[k] = lacksInlet ? k == 2 : Check.answer(() -> board.canReach(inlet, 0)) != Check.ARGUMENT;
            }
        }

        private void addIfMoving(MarbleBoard board, int x, int y) {
            int greatest = -1;
            for (int v = 0; v < 8; v++) {
                int value = v;
                greatest = Check.answer(() -> board.turn(x, y, value)) < 0 ? greatest : v;
            }
            if (greatest >= 0) {
                moving.add(new int[] {x, y, greatest});
            }
        }

        private static int countInputs(MarbleBoard board) {
            int inputs = 0;
            for (int i = 0; i < 3; i++) {
                int input = i;
                inputs += Check.answer(() -> Check.run(() -> board.input(input, 0))) == 0 ? 1 : 0;
            }
            return inputs;
        }
    }

    private final MarbleBoard board;
    private final Facts facts;
    private final List<String> answers = new ArrayList<>();

    private Probe(MarbleBoard board, Facts facts) {
        this.board = board;
        this.facts = facts;
    }

    /** Checks that a call, refused or not, leaves all as if it had not been made. */
    static void changesNothing(String what, Supplier<MarbleBoard> make, Consumer<MarbleBoard> call) {
        Facts facts = new Facts(make.get());
        same("after " + what, answers(called(make, call), facts), answers(make.get(), facts));
        same("the table after " + what, outlets(called(make, call)), outlets(make.get()));
    }

    private static MarbleBoard called(Supplier<MarbleBoard> make, Consumer<MarbleBoard> call) {
        MarbleBoard board = make.get();
        Check.answer(() -> Check.run(() -> call.accept(board)));
        return board;
    }

    private static void same(String what, List<String> got, List<String> due) {
        for (int i = 0; i < Math.min(got.size(), due.size()); i++) {
            if (!got.get(i).equals(due.get(i))) {
                Check.same(what, got.get(i) + "\n", due.get(i) + "\n");
                return;
            }
        }
        Check.same(what + ": how many answers", got.size(), due.size());
    }

    private static List<String> answers(MarbleBoard board, Facts facts) {
        Probe probe = new Probe(board, facts);
        probe.read();
        if (!facts.frozen) {
            probe.freeze();
        }
        probe.search();
        probe.runAtOnce();
        probe.runAlone();
        probe.lean();
        probe.askForRefusals();
        return probe.answers;
    }

    private static List<String> outlets(MarbleBoard board) {
        board.table(3);
        List<String> outlets = new ArrayList<>();
        for (int r = 0; r < 8; r++) {
            outlets.add("row " + r + ": " + board.look(2 * r, 9));
        }
        return outlets;
    }

    /** Puts an outlet into each hole. */
    private static void mend(MarbleBoard board, int width) {
        for (int i = 0; i < 256 && board.hole() >= 0; i++) {
            board.cell(board.hole() % width, board.hole() / width, 'a');
        }
    }

    private void ask(String call, LongSupplier answer) {
        answers.add(call + ": " + Check.told(Check.answer(answer)));
    }

    private void read() {
        ask("hole()", board::hole);
        if (facts.frozen) {
            ask("tick(0)", () -> board.tick(0));
        }
        for (int i = 0; i < facts.marbles; i++) {
            int what = 2 + i;
            ask("marbles(" + what + ")", () -> board.marbles(what));
        }
        readNumbers();
        for (int place = 0; place < facts.width * facts.height; place++) {
            int x = place % facts.width;
            int y = place / facts.width;
            ask("look(" + x + ", " + y + ")", () -> board.look(x, y));
        }
        readValues();
    }

    private void readNumbers() {
        ask("marbles(0)", () -> board.marbles(0));
        ask("marbles(1)", () -> board.marbles(1));
        for (int i = 0; i < 4; i++) {
            int o = i;
            ask("count(" + o + ")", () -> board.count(o));
        }
    }

    private void readValues() {
        for (int[] cell : facts.moving) {
            ask("value(" + cell[0] + ", " + cell[1] + ")", () -> board.value(cell[0], cell[1]));
        }
    }

    private void freeze() {
        if (facts.lacksInlet) {
            board.inlet(2, 0);
        }
        ask("hole()", board::hole);
        mend(board, facts.width);
        ask("freeze()", board::freeze);
        readNumbers();
    }

    private void search() {
        ask("explore(400)", () -> board.explore(400));
        ask("explore(2)", () -> board.explore(2));
        for (int i = 0; i < 16; i++) {
            int k = i / 4;
            int o = i % 4;
            if (facts.inlets[k]) {
                ask("canReach(" + k + ", " + o + ")", () -> board.canReach(k, o));
            }
        }
        if (facts.marbles == 0) {
            ask("jam(1)", () -> board.jam(1));
            ask("jam(3)", () -> board.jam(3));
        }
    }

    /** Twice, as a gate has three openings at most, and there are up to six marbles. */
    private void runAtOnce() {
        for (int i = 0; i < 8; i++) {
            int k = i % 4;
            if (facts.inlets[k]) {
                ask("roll(" + k + ")", () -> board.roll(k) ? 1 : 0);
                ask("tick(1)", () -> board.tick(1));
                readNumbers();
            }
        }
        ask("tick(64)", () -> board.tick(64));
        for (int i = 0; i < 2; i++) {
            for (int[] cell : facts.moving) {
                ask("turn(" + cell[0] + ", " + cell[1] + ")", () -> board.turn(cell[0], cell[1], cell[2]));
            }
            ask("tick(64)", () -> board.tick(64));
            readNumbers();
        }
    }

    /** On a board that no turn can rid of its marbles freeze() does it, but then nothing is to be undone. */
    private void runAlone() {
        if (board.marbles(0) > 0) {
            ask("freeze()", board::freeze);
        }
        for (int i = 0; i < 5; i++) {
            ask("undo()", () -> board.undo() ? 1 : 0);
            readValues();
        }
        for (int i = 0; i < 36; i++) {
            int k = i % 4;
            if (facts.inlets[k]) {
                ask("drop(" + k + ")", () -> board.drop(k));
            }
        }
        readNumbers();
        readValues();
    }

    private void lean() {
        for (int i = 0; i < facts.inputs; i++) {
            int input = i;
            ask("input(" + i + ", 1)", () -> Check.run(() -> board.input(input, 1)));
            ask("drop(0)", () -> board.drop(0));
        }
    }

    /** At last, and each thing once: the inlets that are not there, and the values that are too great. */
    private void askForRefusals() {
        for (int i = 0; i < 4; i++) {
            int k = i;
            ask("roll(" + k + ")", () -> board.roll(k) ? 1 : 0);
        }
        for (int[] cell : facts.moving) {
            ask("a greater turn(" + cell[0] + ", " + cell[1] + ")", () -> board.turn(cell[0], cell[1], cell[2] + 1));
        }
        ask("input(0, 1)", () -> Check.run(() -> board.input(0, 1)));
    }
}
