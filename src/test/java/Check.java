import java.util.function.LongSupplier;

/** What the tests share: boards from texts, and checks that print each answer that is not as due. */
final class Check {
    /** Answers that a call gives by throwing. */
    static final long STATE = Long.MIN_VALUE, ARGUMENT = Long.MIN_VALUE + 1;

    private static int checks = 0;
    private static int wrong = 0;

    private Check() {
    }

    static void same(String what, long got, long due) {
        checks++;
        if (got != due) {
            wrong++;
            System.out.println(what + ": answered " + told(got) + ", due is " + told(due));
        }
    }

    static void same(String what, boolean got, boolean due) {
        same(what, got ? 1 : 0, due ? 1 : 0);
    }

    static void same(String what, String got, String due) {
        if (!got.equals(due)) {
            System.out.println(what + ": got\n" + got + "due\n" + due);
        }
        same(what, got.equals(due), true);
    }

    static void refusesState(String what, Runnable call) {
        same(what, answer(() -> run(call)), STATE);
    }

    static void refusesArgument(String what, Runnable call) {
        same(what, answer(() -> run(call)), ARGUMENT);
    }

    /** The answer of a call, or which exception it threw. */
    static long answer(LongSupplier call) {
        try {
            return call.getAsLong();
        } catch (IllegalStateException e) {
            return STATE;
        } catch (IllegalArgumentException e) {
            return ARGUMENT;
        }
    }

    static long run(Runnable call) {
        call.run();
        return 0;
    }

    static String told(long answer) {
        return answer == STATE ? "IllegalStateException" : answer == ARGUMENT ? "IllegalArgumentException" : "" + answer;
    }

    static void end() {
        System.out.println(checks + " checks, " + wrong + " wrong");
        if (wrong != 0) {
            System.exit(1);
        }
    }

    /** A board that looks like these rows, not frozen, without inlets. */
    static MarbleBoard board(String... rows) {
        MarbleBoard board = new MarbleBoard();
        lay(board, rows);
        return board;
    }

    static void lay(MarbleBoard board, String... rows) {
        board.board(rows[0].length(), rows.length);
        for (int y = 0; y < rows.length; y++) {
            board.row(y, bytes(rows[y], 0), bytes(rows[y], 8));
        }
    }

    /** The frozen board with inlets 0, 1, .. in these columns. */
    static MarbleBoard frozen(int[] columns, String... rows) {
        MarbleBoard board = board(rows);
        for (int k = 0; k < columns.length; k++) {
            board.inlet(k, columns[k]);
        }
        same("a test's board can be frozen", board.freeze(), 1);
        return board;
    }

    static int[] columns(int... columns) {
        return columns;
    }

    static long bytes(String row, int from) {
        long bytes = 0;
        for (int i = from; i < Math.min(row.length(), from + 8); i++) {
            bytes |= (long) row.charAt(i) << 8 * (i - from);
        }
        return bytes;
    }

    /** All that look() tells of a board, row by row. */
    static String seen(MarbleBoard board) {
        int width = 0;
        while (exists(board, width, 0)) {
            width++;
        }
        StringBuilder text = new StringBuilder();
        for (int y = 0; exists(board, 0, y); y++) {
            for (int x = 0; x < width; x++) {
                text.append(board.look(x, y));
            }
            text.append('\n');
        }
        return text.toString();
    }

    /** What look() tells of one row, for tests that have few calls to spare. */
    static String seenRow(MarbleBoard board, int y) {
        StringBuilder text = new StringBuilder();
        for (int x = 0; exists(board, x, y); x++) {
            text.append(board.look(x, y));
        }
        return text.toString();
    }

    private static boolean exists(MarbleBoard board, int x, int y) {
        return answer(() -> board.look(x, y)) != ARGUMENT;
    }

    static void looksLike(String what, MarbleBoard board, String... rows) {
        same(what, seen(board), String.join("\n", rows) + "\n");
    }

    /** The values on both sides of a range, and the least and the greatest there are. */
    static int[] beside(int least, int most) {
        return new int[] {least - 1, most + 1, Integer.MIN_VALUE, Integer.MAX_VALUE};
    }

    static boolean isFrozen(MarbleBoard board) {
        return answer(() -> board.tick(0)) == 0;
    }
}
