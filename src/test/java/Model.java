import java.util.ArrayDeque;
import java.util.ArrayList;
import java.util.Arrays;
import java.util.HashSet;
import java.util.List;
import java.util.Set;

/** The document once more, slow and plain: whole copies of the board instead of packed states, texts instead of numbers. */
final class Model {
    private static final String ALL = "./\\|XabcdABCD<>[]0123s";

    /** A splitter's pattern is a text of 0 and 1; positions stand beside the characters. */
    private static final class Grid {
        int w;
        int h;
        char[][] cells;
        String[][] patterns;
        int[][] positions;
        int[] inlets = {-1, -1, -1, -1};

        Grid(int w, int h) {
            this.w = w;
            this.h = h;
            cells = new char[w][h];
            patterns = new String[w][h];
            positions = new int[w][h];
            for (char[] column : cells) {
                Arrays.fill(column, '.');
            }
        }

        Grid copy() {
            Grid copy = new Grid(w, h);
            for (int x = 0; x < w; x++) {
                copy.cells[x] = cells[x].clone();
                copy.patterns[x] = patterns[x].clone();
                copy.positions[x] = positions[x].clone();
            }
            copy.inlets = inlets.clone();
            return copy;
        }

        String key() {
            return Arrays.deepToString(cells) + Arrays.deepToString(positions);
        }

        boolean has(int x, int y) {
            return 0 <= x && x < w && 0 <= y && y < h;
        }

        boolean hasInlet(int k) {
            return 0 <= k && k <= 3 && inlets[k] >= 0;
        }

        void put(int x, int y, char c) {
            cells[x][y] = c;
            patterns[x][y] = "01";
            positions[x][y] = 0;
        }

        String values(int x, int y) {
            char c = cells[x][y];
            return "<>".indexOf(c) >= 0 ? "<>" : "[]".indexOf(c) >= 0 ? "[]" : "0123".indexOf(c) >= 0 ? "0123" : "";
        }

        int valuesOf(int x, int y) {
            return cells[x][y] == 's' ? patterns[x][y].length() : values(x, y).length();
        }

        int value(int x, int y) {
            return cells[x][y] == 's' ? positions[x][y] : values(x, y).indexOf(cells[x][y]);
        }

        void setValue(int x, int y, int v) {
            if (cells[x][y] == 's') {
                positions[x][y] = v;
            } else {
                cells[x][y] = values(x, y).charAt(v);
            }
        }
    }

    private static final class Ball {
        int x;
        int y;
        int came;
        /** -1 while it is on the board. */
        int outlet = -1;

        Ball(int x, int y, int came) {
            this.x = x;
            this.y = y;
            this.came = came;
        }

        Ball copy() {
            return new Ball(x, y, came);
        }

        String key() {
            return x + "," + y + "," + came + ";";
        }
    }

    private record Drop(Grid before, int outlet) {
    }

    private record Situation(Grid grid, List<Ball> balls, int rest) {
        String key() {
            StringBuilder text = new StringBuilder(grid.key()).append(rest).append(':');
            balls.forEach(ball -> text.append(ball.key()));
            return text.toString();
        }

        Situation copy() {
            List<Ball> copies = new ArrayList<>();
            balls.forEach(ball -> copies.add(ball.copy()));
            return new Situation(grid.copy(), copies, rest);
        }
    }

    private Grid grid = new Grid(1, 1);
    private boolean frozen;
    private int inputs;
    private int held;
    private List<Ball> balls = new ArrayList<>();
    private final int[] counts = new int[4];
    private final int[] told = new int[8];
    private final ArrayDeque<Drop> past = new ArrayDeque<>();

    private static void argument(boolean fine) {
        if (!fine) {
            throw new IllegalArgumentException();
        }
    }

    private static void state(boolean fine) {
        if (!fine) {
            throw new IllegalStateException();
        }
    }

    private void built() {
        frozen = false;
        inputs = 0;
        held = 0;
        balls.clear();
    }

    void board(int w, int h) {
        argument(w >= 1 && w <= 16 && h >= 1 && h <= 16);
        built();
        grid = new Grid(w, h);
    }

    void row(int y, long a, long b) {
        argument(grid.has(0, y));
        StringBuilder row = new StringBuilder();
        for (int i = 0; i < 8; i++) {
            row.append((char) (a >> 8 * i & 0xFF));
        }
        for (int i = 0; i < 8; i++) {
            row.append((char) (b >> 8 * i & 0xFF));
        }
        row.setLength(grid.w);
        row.chars().forEach(c -> argument(ALL.indexOf(c) >= 0));
        built();
        for (int x = 0; x < grid.w; x++) {
            grid.put(x, y, row.charAt(x));
        }
    }

    void cell(int x, int y, char c) {
        argument(grid.has(x, y) && ALL.indexOf(c) >= 0);
        built();
        grid.put(x, y, c);
    }

    void pattern(int x, int y, int length, int bits) {
        argument(grid.has(x, y) && grid.cells[x][y] == 's' && length >= 1 && length <= 8);
        built();
        StringBuilder pattern = new StringBuilder();
        for (int i = 0; i < length; i++) {
            pattern.append((bits & 1 << i) == 0 ? '0' : '1');
        }
        grid.patterns[x][y] = pattern.toString();
        grid.positions[x][y] = 0;
    }

    void inlet(int k, int x) {
        argument(k >= 0 && k <= 3 && x >= -1 && x < grid.w);
        built();
        grid.inlets[k] = x;
    }

    int freeze() {
        state(Arrays.stream(grid.inlets).anyMatch(x -> x >= 0));
        balls.clear();
        held = 0;
        frozen = hole() == -1 && bits() <= 28;
        if (frozen) {
            Arrays.fill(counts, 0);
            past.clear();
        }
        return frozen ? 1 : 0;
    }

    private int bits() {
        int bits = 0;
        for (int x = 0; x < grid.w; x++) {
            for (int y = 0; y < grid.h; y++) {
                bits += grid.cells[x][y] == 's' ? 3 : grid.valuesOf(x, y) / 2;
            }
        }
        return bits;
    }

    /** Goes from each inlet everywhere, with every value that a cell can have. */
    int hole() {
        int least = Integer.MAX_VALUE;
        Set<String> seen = new HashSet<>();
        ArrayDeque<Ball> open = new ArrayDeque<>();
        for (int k = 0; k < 4; k++) {
            if (grid.hasInlet(k)) {
                open.add(new Ball(grid.inlets[k], 0, 0));
            }
        }
        while (!open.isEmpty()) {
            Ball ball = open.remove();
            if (!seen.add(ball.key())) {
                continue;
            }
            for (int v = 0; v < Math.max(1, grid.valuesOf(ball.x, ball.y)); v++) {
                Ball next = ball.copy();
                Grid turned = grid.copy();
                if (turned.valuesOf(ball.x, ball.y) > 0) {
                    turned.setValue(ball.x, ball.y, v);
                }
                boolean moved = move(turned, next);
                boolean bad = grid.cells[ball.x][ball.y] == '.' || moved && next.outlet < 0 && !grid.has(next.x, next.y);
                if (bad) {
                    least = Math.min(least, grid.w * ball.y + ball.x);
                } else if (moved && next.outlet < 0) {
                    open.add(next);
                }
            }
        }
        return least == Integer.MAX_VALUE ? -1 : least;
    }

    /** Moves on, whatever is in the way; false, with nothing changed, if it cannot. */
    private static boolean move(Grid grid, Ball ball) {
        char c = grid.cells[ball.x][ball.y];
        int side = ball.came;
        if ("abcd".indexOf(c) >= 0) {
            ball.outlet = c - 'a';
            return true;
        }
        if ("ABCD".indexOf(c) >= 0) {
            ball.x = grid.inlets[c - 'A'];
            ball.y = 0;
            ball.came = 0;
            return true;
        }
        switch (c) {
            case '.': return false;
            case '/': side = -1; break;
            case '\\': side = 1; break;
            case '|': side = 0; break;
            case 'X': break;
            case '<': side = -1; grid.cells[ball.x][ball.y] = '>'; break;
            case '>': side = 1; grid.cells[ball.x][ball.y] = '<'; break;
            case '[':
            case ']':
                if (ball.came == 0) {
                    side = c == '[' ? -1 : 1;
                } else {
                    grid.cells[ball.x][ball.y] = ball.came == -1 ? '[' : ']';
                    side = 0;
                }
                break;
            case 's': side = split(grid, ball.x, ball.y); break;
            default:
                if (ball.came == 0 && c == '0') {
                    return false;
                }
                grid.cells[ball.x][ball.y] = ball.came == 0 ? (char) (c - 1) : c == '3' ? '3' : (char) (c + 1);
                break;
        }
        ball.x += side;
        ball.y++;
        ball.came = side;
        return true;
    }

    private static int split(Grid grid, int x, int y) {
        String pattern = grid.patterns[x][y];
        int position = grid.positions[x][y];
        grid.positions[x][y] = (position + 1) % pattern.length();
        return pattern.charAt(position) == '0' ? -1 : 1;
    }

    char look(int x, int y) {
        argument(grid.has(x, y));
        return grid.cells[x][y];
    }

    int value(int x, int y) {
        argument(grid.has(x, y) && grid.valuesOf(x, y) > 0);
        return grid.value(x, y);
    }

    int turn(int x, int y, int v) {
        argument(grid.has(x, y) && v >= 0 && v < grid.valuesOf(x, y));
        int was = grid.value(x, y);
        grid.setValue(x, y, v);
        return was;
    }

    private static int run(Grid grid, int k) {
        Ball ball = new Ball(grid.inlets[k], 0, 0);
        int moves = 0;
        while (moves < 300 && ball.outlet < 0 && move(grid, ball)) {
            moves++;
        }
        return ball.outlet;
    }

    int drop(int k) {
        state(frozen && balls.isEmpty());
        argument(grid.hasInlet(k));
        Grid before = grid.copy();
        int outlet = run(grid, k);
        if (outlet < 0) {
            grid = before;
            return -1;
        }
        counts[outlet]++;
        past.push(new Drop(before, outlet));
        if (past.size() > 32) {
            past.removeLast();
        }
        return outlet;
    }

    boolean undo() {
        state(frozen && balls.isEmpty());
        if (past.isEmpty()) {
            return false;
        }
        Drop drop = past.pop();
        grid = drop.before().copy();
        counts[drop.outlet()]--;
        return true;
    }

    int count(int o) {
        argument(o >= 0 && o <= 3);
        return counts[o];
    }

    private static boolean isFree(List<Ball> balls, Ball ball) {
        return balls.stream().noneMatch(other -> other != ball && other.outlet < 0 && other.x == ball.x && other.y == ball.y);
    }

    boolean roll(int k) {
        state(frozen);
        argument(grid.hasInlet(k));
        Ball ball = new Ball(grid.inlets[k], 0, 0);
        return balls.size() < 6 && isFree(balls, ball) && balls.add(ball);
    }

    int tick(int n) {
        state(frozen);
        argument(n >= 0 && n <= 64);
        int before = balls.size();
        for (int i = 0; i < n; i++) {
            Situation now = new Situation(grid, balls, 0);
            Situation then = now.copy();
            held = tickOnce(then);
            grid = then.grid();
            then.balls().stream().filter(ball -> ball.outlet >= 0).forEach(ball -> counts[ball.outlet]++);
            then.balls().removeIf(ball -> ball.outlet >= 0);
            balls = then.balls();
        }
        return before - balls.size();
    }

    /** Balls that are gone stay in the list; how many were held. */
    private static int tickOnce(Situation situation) {
        int stayed = 0;
        for (Ball ball : situation.balls()) {
            Grid before = situation.grid().copy();
            Ball was = ball.copy();
            boolean moved = move(situation.grid(), ball);
            if (moved && (ball.outlet >= 0 || isFree(situation.balls(), ball))) {
                continue;
            }
            stayed++;
            situation.grid().cells = before.cells;
            situation.grid().positions = before.positions;
            ball.x = was.x;
            ball.y = was.y;
            ball.came = was.came;
        }
        return stayed;
    }

    int marbles(int what) {
        argument(what >= 0 && (what < 2 || what - 2 < balls.size()));
        if (what < 2) {
            return what == 0 ? balls.size() : held;
        }
        return grid.w * balls.get(what - 2).y + balls.get(what - 2).x;
    }

    /** All states that runs can bring about, but none beyond one more than the limit. */
    private List<Grid> states(int limit) {
        List<Grid> states = new ArrayList<>(List.of(grid));
        Set<String> seen = new HashSet<>(Set.of(grid.key()));
        for (int i = 0; i < states.size(); i++) {
            for (int k = 0; k < 4 && states.size() <= limit; k++) {
                if (grid.hasInlet(k)) {
                    Grid next = states.get(i).copy();
                    if (run(next, k) >= 0 && seen.add(next.key())) {
                        states.add(next);
                    }
                }
            }
        }
        return states;
    }

    int explore(int limit) {
        state(frozen);
        argument(limit >= 1 && limit <= 400);
        int states = states(limit).size();
        return states > limit ? -1 : states;
    }

    int canReach(int k, int o) {
        state(frozen);
        argument(grid.hasInlet(k) && o >= 0 && o <= 3);
        List<Grid> states = states(400);
        if (states.size() > 400) {
            return -1;
        }
        return states.stream().anyMatch(from -> run(from.copy(), k) == o) ? 1 : 0;
    }

    int jam(int many) {
        state(frozen && balls.isEmpty());
        argument(many >= 1 && many <= 3);
        boolean jammed = false;
        List<Situation> open = new ArrayList<>(List.of(new Situation(grid, List.of(), many).copy()));
        Set<String> seen = new HashSet<>(Set.of(open.get(0).key()));
        for (int i = 0; i < open.size() && open.size() <= 400; i++) {
            Situation from = open.get(i);
            Situation ticked = from.copy();
            int stayed = tickOnce(ticked);
            jammed = jammed || !from.balls().isEmpty() && stayed == from.balls().size();
            ticked.balls().removeIf(ball -> ball.outlet >= 0);
            if (seen.add(ticked.key())) {
                open.add(ticked);
            }
            for (int k = 0; k < 4; k++) {
                Ball ball = new Ball(grid.inlets[k], 0, 0);
                if (grid.hasInlet(k) && from.rest() > 0 && isFree(from.balls(), ball)) {
                    Situation more = from.copy();
                    more.balls().add(ball);
                    Situation next = new Situation(more.grid(), more.balls(), from.rest() - 1);
                    if (seen.add(next.key())) {
                        open.add(next);
                    }
                }
            }
        }
        return open.size() > 400 ? -1 : jammed ? 1 : 0;
    }

    void counter(int bits) {
        argument(bits >= 1 && bits <= 8);
        board(bits + 2, bits + 2);
        inlet(0, 1);
        for (int i = 0; i < bits; i++) {
            cell(i + 1, i, '<');
            for (int y = i + 1; y <= bits; y++) {
                cell(i, y, '|');
            }
            cell(i, bits + 1, 'a');
        }
        cell(bits + 1, bits, '|');
        cell(bits + 1, bits + 1, 'b');
        freeze();
    }

    void tell(int r, int v) {
        argument(r >= 0 && r <= 7 && v >= 0 && v <= 3);
        told[r] = v;
    }

    void table(int number) {
        argument(number >= 1 && number <= 3);
        int rows = 1 << number;
        board(2 * rows - 1, rows + number - 1);
        inlet(0, rows - 1);
        layLatch(number, 0, rows - 1, 0, 0);
        freeze();
        inputs = number;
    }

    /** The latch of input i in (x, y), and all below it; r has the leans that lead to it. */
    private void layLatch(int number, int i, int x, int y, int r) {
        int d = 1 << number - 1 - i;
        cell(x, y, '[');
        if (i == number - 1) {
            cell(x - 1, y + 1, (char) ('a' + told[2 * r]));
            cell(x + 1, y + 1, (char) ('a' + told[2 * r + 1]));
            return;
        }
        for (int q = 1; q < d; q++) {
            cell(x - q, y + q, '/');
            cell(x + q, y + q, '\\');
        }
        cell(x - d, y + d, '|');
        cell(x + d, y + d, '|');
        layLatch(number, i + 1, x - d, y + d + 1, 2 * r);
        layLatch(number, i + 1, x + d, y + d + 1, 2 * r + 1);
    }

    void input(int i, int v) {
        state(frozen && inputs > 0);
        argument(i >= 0 && i < inputs && (v == 0 || v == 1));
        leanLatches(i, 0, (1 << inputs) - 1, 0, v);
    }

    private void leanLatches(int wanted, int i, int x, int y, int v) {
        int d = 1 << inputs - 1 - i;
        if (i == wanted) {
            grid.cells[x][y] = "[]".charAt(v);
        } else {
            leanLatches(wanted, i + 1, x - d, y + d + 1, v);
            leanLatches(wanted, i + 1, x + d, y + d + 1, v);
        }
    }
}
