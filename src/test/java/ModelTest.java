import java.util.Random;
import java.util.function.Consumer;
import java.util.function.ToLongFunction;

/** Random calls, the same ones every time, on the class and on the model: all answers must be the same. */
public final class ModelTest {
    private static final int RUNS = 1200;
    private static final int CALLS = 150;
    /** Beyond these the document leaves free what an object answers. */
    private static final int CALLS_OF_AN_OBJECT = 512;
    private static final String MIXES = "||//\\\\XX<>[]0123ssABCDabcd.";

    private final Random random;
    private final int number;
    private final MarbleBoard board = new MarbleBoard();
    private final Model model = new Model();
    private int width = 1;
    private int height = 1;
    private int calls;

    private ModelTest(int number) {
        this.number = number;
        this.random = new Random(number);
    }

    public static void main(String[] args) {
        int runs = args.length == 0 ? RUNS : Integer.parseInt(args[0]);
        for (int number = 0; number < runs; number++) {
            new ModelTest(number).play();
        }
        Check.end();
    }

    private void play() {
        lay();
        for (int i = 0; i < CALLS; i++) {
            call();
        }
        compareAll();
    }

    private void both(String what, ToLongFunction<MarbleBoard> ofBoard, ToLongFunction<Model> ofModel) {
        calls++;
        if (calls > CALLS_OF_AN_OBJECT) {
            return;
        }
        long got = Check.answer(() -> ofBoard.applyAsLong(board));
        long due = Check.answer(() -> ofModel.applyAsLong(model));
        Check.same("run " + number + ": " + what, got, due);
    }

    private void bothDo(String what, Consumer<MarbleBoard> ofBoard, Consumer<Model> ofModel) {
        both(what, b -> done(() -> ofBoard.accept(b)), m -> done(() -> ofModel.accept(m)));
    }

    private static long done(Runnable call) {
        call.run();
        return 0;
    }

    private int upTo(int most) {
        return random.nextInt(most + 1);
    }

    /** Mostly a number that is fine, sometimes one beside. */
    private int about(int least, int most) {
        return random.nextInt(12) == 0 ? random.nextBoolean() ? least - 1 : most + 1 : least + upTo(most - least);
    }

    /** A board of tracks and a few other cells, or a laid out one, frozen if it can be. */
    private void lay() {
        int kind = upTo(9);
        if (kind == 0) {
            layCounter();
        } else if (kind == 1) {
            layTable();
        } else {
            layMixed(kind == 2 ? 16 : 7);
        }
    }

    private void layCounter() {
        int bits = about(1, 8);
        bothDo("counter(" + bits + ")", b -> b.counter(bits), m -> m.counter(bits));
        if (bits >= 1 && bits <= 8) {
            width = bits + 2;
            height = bits + 2;
        }
    }

    private void layTable() {
        for (int i = 0; i < 8; i++) {
            tell();
        }
        int inputs = about(1, 3);
        bothDo("table(" + inputs + ")", b -> b.table(inputs), m -> m.table(inputs));
        if (inputs >= 1 && inputs <= 3) {
            width = (2 << inputs) - 1;
            height = (1 << inputs) + inputs - 1;
        }
    }

    private void tell() {
        int r = about(0, 7);
        int v = about(0, 3);
        bothDo("tell(" + r + ", " + v + ")", b -> b.tell(r, v), m -> m.tell(r, v));
    }

    private void layMixed(int most) {
        width = 1 + upTo(most - 1);
        height = 1 + upTo(most - 1);
        bothDo("board(" + width + ", " + height + ")", b -> b.board(width, height), m -> m.board(width, height));
        int moving = 0;
        for (int y = 0; y < height; y++) {
            StringBuilder row = new StringBuilder();
            for (int x = 0; x < width; x++) {
                char c = character(y == height - 1);
                boolean fits = "<>[]0123s".indexOf(c) < 0 || moving++ < 12;
                row.append(fits ? c : '|');
            }
            row(y, row.toString());
        }
        for (int k = 0; k < 4; k++) {
            inlet(k, upTo(5) == 0 ? -1 : upTo(width - 1));
        }
        layPatterns();
        if (upTo(5) > 0) {
            mendHoles();
        }
        both("freeze", b -> b.freeze(), m -> m.freeze());
    }

    private void layPatterns() {
        for (int place = 0; place < width * height; place++) {
            if (upTo(1) == 0 && model.look(place % width, place / width) == 's') {
                pattern(place % width, place / width);
            }
        }
    }

    private void pattern(int x, int y) {
        int length = about(1, 8);
        int bits = random.nextInt();
        bothDo("pattern(" + x + ", " + y + ", " + length + ", " + bits + ")",
            b -> b.pattern(x, y, length, bits), m -> m.pattern(x, y, length, bits));
    }

    /** A place, mostly one of a moving cell. */
    private int somePlace() {
        int place = upTo(width * height - 1);
        for (int tries = 0; tries < 20 && upTo(15) > 0; tries++) {
            if ("<>[]0123s".indexOf(model.look(place % width, place / width)) >= 0) {
                return place;
            }
            place = upTo(width * height - 1);
        }
        return place;
    }

    private char character(boolean isLast) {
        if (isLast && upTo(9) > 0) {
            return "aabbcdABCD".charAt(upTo(9));
        }
        int choice = upTo(99);
        return choice < 65 ? MIXES.charAt(upTo(MIXES.length() - 1)) : choice < 75 ? 'X' : "/\\|".charAt(upTo(2));
    }

    private void row(int y, String row) {
        long a = Check.bytes(row, 0);
        long b = Check.bytes(row, 8);
        bothDo("row(" + y + ", " + row + ")", o -> o.row(y, a, b), m -> m.row(y, a, b));
    }

    private void inlet(int k, int x) {
        bothDo("inlet(" + k + ", " + x + ")", b -> b.inlet(k, x), m -> m.inlet(k, x));
    }

    /** Puts something sound into each hole, so that many boards can be frozen. */
    private void mendHoles() {
        for (int i = 0; i < 300; i++) {
            both("hole", b -> b.hole(), m -> m.hole());
            int hole = model.hole();
            if (hole < 0) {
                return;
            }
            cell(hole % width, hole / width, hole / width == height - 1 ? "abcd".charAt(upTo(3)) : '|');
        }
    }

    private void cell(int x, int y, char c) {
        bothDo("cell(" + x + ", " + y + ", " + c + ")", b -> b.cell(x, y, c), m -> m.cell(x, y, c));
    }

    private void call() {
        int choice = upTo(99);
        if (choice < 25 && upTo(7) > 0 && model.marbles(0) > 0) {
            both("tick(16)", b -> b.tick(16), m -> m.tick(16));
        } else if (choice < 25) {
            int k = about(0, 3);
            both("drop(" + k + ")", b -> b.drop(k), m -> m.drop(k));
        } else if (choice < 33) {
            both("undo", b -> b.undo() ? 1 : 0, m -> m.undo() ? 1 : 0);
        } else if (choice < 48) {
            int k = about(0, 3);
            both("roll(" + k + ")", b -> b.roll(k) ? 1 : 0, m -> m.roll(k) ? 1 : 0);
        } else if (choice < 65) {
            int n = upTo(9) == 0 ? about(0, 64) : about(0, 3);
            both("tick(" + n + ")", b -> b.tick(n), m -> m.tick(n));
        } else if (choice < 90) {
            read();
        } else if (choice < 94) {
            search();
        } else {
            change();
        }
    }

    private void read() {
        int place = somePlace();
        boolean isBeside = upTo(12) == 0;
        int x = isBeside ? about(0, width - 1) : place % width;
        int y = isBeside ? about(0, height - 1) : place / width;
        int n = upTo(7);
        switch (upTo(4)) {
            case 0 -> both("look(" + x + ", " + y + ")", b -> b.look(x, y), m -> m.look(x, y));
            case 1 -> both("value(" + x + ", " + y + ")", b -> b.value(x, y), m -> m.value(x, y));
            case 2 -> both("turn(" + x + ", " + y + ", " + n / 2 + ")", b -> b.turn(x, y, n / 2), m -> m.turn(x, y, n / 2));
            case 3 -> both("count(" + (n - 2) + ")", b -> b.count(n - 2), m -> m.count(n - 2));
            default -> both("marbles(" + n + ")", b -> b.marbles(n), m -> m.marbles(n));
        }
    }

    private void search() {
        int k = about(0, 3);
        int o = about(0, 3);
        int limit = about(1, upTo(1) == 0 ? 400 : 10);
        switch (upTo(2)) {
            case 0 -> both("explore(" + limit + ")", b -> b.explore(limit), m -> m.explore(limit));
            case 1 -> both("canReach(" + k + ", " + o + ")", b -> b.canReach(k, o), m -> m.canReach(k, o));
            default -> both("jam(" + k + ")", b -> b.jam(k), m -> m.jam(k));
        }
    }

    private void change() {
        int x = about(0, width - 1);
        int y = about(0, height - 1);
        int place = somePlace();
        int n = about(1, 8);
        int i = about(0, 2);
        switch (upTo(19)) {
            case 0 -> cell(x, y, MIXES.charAt(upTo(MIXES.length() - 1)));
            case 1, 2 -> pattern(place % width, place / width);
            case 3 -> pattern(x, y);
            case 4 -> inlet(about(0, 3), about(-1, width - 1));
            case 5 -> lay();
            case 6 -> row(y, "||||||||||||||||");
            case 7 -> bothDo("board", b -> b.board(0, n), m -> m.board(0, n));
            case 8 -> tell();
            case 9, 10, 11 -> both("freeze", b -> b.freeze(), m -> m.freeze());
            case 12, 13, 14 -> both("hole", b -> b.hole(), m -> m.hole());
            default -> bothDo("input(" + i + ")", b -> b.input(i, n & 1), m -> m.input(i, n & 1));
        }
        if (upTo(2) > 0) {
            both("freeze after a change", b -> b.freeze(), m -> m.freeze());
        }
    }

    private void compareAll() {
        for (int y = 0; y < height; y++) {
            for (int x = 0; x < width; x++) {
                int column = x;
                int line = y;
                both("look at last", b -> b.look(column, line), m -> m.look(column, line));
                both("value at last", b -> b.value(column, line), m -> m.value(column, line));
            }
        }
        for (int i = 0; i < 8; i++) {
            int n = i;
            both("count at last", b -> b.count(n), m -> m.count(n));
            both("marbles at last", b -> b.marbles(n), m -> m.marbles(n));
        }
    }
}
