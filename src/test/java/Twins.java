/**
 * Two boards that went the same way: one of them is then asked for something more, and all that calls
 * can tell of the two is compared.
 */
final class Twins {
    interface Way {
        void go(KingsBoard board);
    }

    private Twins() {
    }

    /** A call is refused with this exception, and changes nothing. */
    static void refused(String what, Class<? extends RuntimeException> want, Way way, Way call) {
        KingsBoard board = after(way);
        Checks.dueThrow(what, want, () -> call.go(board));
        Checks.due("all behind the refused " + what, all(board), all(after(way)));
    }

    /** Calls that only answer. */
    static void still(String what, Way way, Way calls) {
        KingsBoard board = after(way);
        calls.go(board);
        Checks.due("all behind " + what, all(board), all(after(way)));
    }

    static KingsBoard after(Way way) {
        KingsBoard board = new KingsBoard();
        way.go(board);
        return board;
    }

    /**
     * All that calls can tell. It uses the board up: moves are taken back, and what was typed is read
     * (with a 1 behind it, so that the ways of the tests type positions up to their last digit).
     */
    static String all(KingsBoard board) {
        StringBuilder text = new StringBuilder("place " + board.place() + ", chosen");
        for (int what = 0; what < 3; what++) {
            text.append(" ").append(board.chosen(what));
        }
        text.append(", last written ").append(lastWritten(board));
        text.append(", now ").append(Checks.written(board)).append(outline(board));
        while (canGoBack(board)) {
            text.append(", before").append(outline(board));
        }
        text.append(", typed ").append(typed(board)).append(", read ").append(board.read());
        return text.append(" at ").append(board.place()).append(", now ").append(Checks.written(board)).toString();
    }

    // Not all of the position, so that no board is asked more often than 512 times.
    private static String outline(KingsBoard board) {
        StringBuilder text = new StringBuilder(" state " + board.state() + " worth " + board.worth());
        text.append(" moves ").append(board.moves());
        for (int what = 0; what < 6; what++) {
            text.append(" ").append(board.about(what));
        }
        return text.toString();
    }

    private static String lastWritten(KingsBoard board) {
        StringBuilder text = new StringBuilder();
        try {
            for (int i = 0; i < 1000; i++) {
                text.append((char) board.written(i));
            }
        } catch (IndexOutOfBoundsException end) {
            return text + "|";
        }
        return "without an end";
    }

    private static boolean canGoBack(KingsBoard board) {
        try {
            board.back();
            return true;
        } catch (IllegalStateException none) {
            return false;
        }
    }

    private static String typed(KingsBoard board) {
        try {
            return "" + board.type('1', 1);
        } catch (IllegalStateException full) {
            return "no room";
        }
    }
}
