import java.util.ArrayList;
import java.util.List;
import java.util.function.Consumer;
import java.util.function.LongSupplier;
import java.util.function.Supplier;

/**
 * Asks a board all that calls can tell of it, first by calls that change nothing, then by such as bring out what is
 * hidden: patterns, inlets, drops to be undone, the table. It stays below the 512 calls of an object on small boards.
 */
final class Probe {
    private final MarbleBoard board;
    private final List<String> answers = new ArrayList<>();
    private final List<int[]> moving = new ArrayList<>();
    private int width;
    private int height;

    private Probe(MarbleBoard board) {
        this.board = board;
    }

    /** Checks that a call, refused or not, leaves all as if it had not been made. */
    static void changesNothing(String what, Supplier<MarbleBoard> make, Consumer<MarbleBoard> call) {
        MarbleBoard called = make.get();
        Check.answer(() -> Check.run(() -> call.accept(called)));
        same("after " + what, answers(called), answers(make.get()));
    }

    private static void same(String what, List<String> got, List<String> due) {
        for (int i = 0; i < Math.min(got.size(), due.size()); i++) {
            if (!got.get(i).equals(due.get(i))) {
                Check.same(what, got.get(i) + "\n", due.get(i) + "\n");
                return;
            }
        }
        Check.same(what + ": how many answers", got.size(), due.size());
    }

    private static List<String> answers(MarbleBoard board) {
        Probe probe = new Probe(board);
        probe.read();
        probe.search();
        probe.runAtOnce();
        probe.letAllGo();
        probe.runAlone();
        probe.lean();
        probe.freeze();
        probe.lay();
        return probe.answers;
    }

    private void ask(String call, LongSupplier answer) {
        answers.add(call + ": " + Check.told(Check.answer(answer)));
    }

    private void read() {
        while (exists(width, 0)) {
            width++;
        }
        while (exists(0, height)) {
            height++;
        }
        answers.add(width + " by " + height);
        ask("hole()", board::hole);
        ask("tick(0)", () -> board.tick(0));
        readMarbles();
        look();
        for (int place = 0; place < width * height; place++) {
            int x = place % width;
            int y = place / width;
            ask("value(" + x + ", " + y + ")", () -> board.value(x, y));
            if ("<>[]0123s".indexOf(board.look(x, y)) >= 0) {
                moving.add(new int[] {x, y});
            }
        }
    }

    private boolean exists(int x, int y) {
        return Check.answer(() -> board.look(x, y)) != Check.ARGUMENT;
    }

    private void readMarbles() {
        for (int i = 0; i < 9; i++) {
            int what = i;
            ask("marbles(" + what + ")", () -> board.marbles(what));
        }
        for (int i = 0; i < 4; i++) {
            int o = i;
            ask("count(" + o + ")", () -> board.count(o));
        }
    }

    private void look() {
        for (int place = 0; place < width * height; place++) {
            int x = place % width;
            int y = place / width;
            ask("look(" + x + ", " + y + ")", () -> board.look(x, y));
        }
    }

    private void search() {
        ask("explore(400)", () -> board.explore(400));
        ask("explore(2)", () -> board.explore(2));
        for (int i = 0; i < 16; i++) {
            int k = i / 4;
            int o = i % 4;
            ask("canReach(" + k + ", " + o + ")", () -> board.canReach(k, o));
        }
        ask("jam(1)", () -> board.jam(1));
        ask("jam(3)", () -> board.jam(3));
    }

    private void runAtOnce() {
        ask("undo()", () -> board.undo() ? 1 : 0);
        for (int i = 0; i < 4; i++) {
            int k = i;
            ask("roll(" + k + ")", () -> board.roll(k) ? 1 : 0);
        }
        ask("tick(1)", () -> board.tick(1));
        readMarbles();
        ask("tick(64)", () -> board.tick(64));
        readMarbles();
    }

    private void runAlone() {
        for (int i = 0; i < 4; i++) {
            ask("undo()", () -> board.undo() ? 1 : 0);
        }
        for (int i = 0; i < 12; i++) {
            int k = i % 4;
            ask("drop(" + k + ")", () -> board.drop(k));
        }
        look();
    }

    /** Twice, as a gate has three openings at most, and there are up to six marbles. */
    private void letAllGo() {
        for (int i = 0; i < 2; i++) {
            turnAll();
            ask("tick(64)", () -> board.tick(64));
            readMarbles();
        }
    }

    /** Up to the greatest value: what is refused tells how long a pattern is. */
    private void turnAll() {
        for (int[] cell : moving) {
            for (int v = 0; v < 8; v++) {
                int value = v;
                ask("turn(" + cell[0] + ", " + cell[1] + ", " + v + ")", () -> board.turn(cell[0], cell[1], value));
            }
        }
    }

    private void lean() {
        for (int i = 0; i < 4; i++) {
            int input = i;
            ask("input(" + i + ", 1)", () -> Check.run(() -> board.input(input, 1)));
            ask("drop(0)", () -> board.drop(0));
        }
    }

    /** Takes off the marbles that may still be there, so that runs show the patterns at last. */
    private void freeze() {
        ask("freeze()", board::freeze);
        for (int i = 0; i < 32; i++) {
            int k = i % 4;
            ask("drop(" + k + ")", () -> board.drop(k));
        }
        readMarbles();
    }

    private void lay() {
        board.table(3);
        for (int r = 0; r < 8; r++) {
            int x = 2 * r;
            ask("row " + r + " of the table", () -> board.look(x, 9));
        }
    }
}
