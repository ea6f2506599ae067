/** Promise 2: type. (What it refuses is also in RefusedTest, with all that must not change then.) */
public final class TypingTest {
    private static final long EIGHT = 0x4141414141414141L;

    public static void main(String[] args) {
        lowestFirst();
        howMany();
        wrongCounts();
        eachCharacter();
        beyond();
        room();
        roomAgain();
        firstException();
        Checks.finish();
    }

    private static void lowestFirst() {
        Checks.says("n characters more are typed, the lowest byte of w first");
        String text = "1n1k1b1r/p1p1p1p1/1n1n1n1n/8/2P2P2/1P4P1/8/RNBQ1K1R w - - 3 7";
        for (int n = 1; n <= 8; n++) {
            KingsBoard board = new KingsBoard();
            for (int begin = 0; begin < text.length(); begin += n) {
                String part = text.substring(begin, Math.min(text.length(), begin + n));
                Checks.due("typed", board.type(Checks.packed(part), part.length()), begin + part.length());
            }
            Checks.due("read of parts of " + n, board.read(), 0);
            Checks.due("parts of " + n, Checks.written(board), text);
        }
    }

    private static void howMany() {
        Checks.says("how many there are then");
        KingsBoard board = new KingsBoard();
        int sum = 0;
        for (int n = 1; n <= 8; n++) {
            sum += n;
            Checks.due("and " + n, board.type(EIGHT, n), sum);
        }
    }

    private static void wrongCounts() {
        Checks.says("IllegalArgumentException: n is not 1 .. 8");
        KingsBoard board = new KingsBoard();
        for (int n : new int[] {0, -1, -8, 9, 16, 64, Integer.MIN_VALUE, Integer.MAX_VALUE}) {
            Checks.dueThrow("n " + n, IllegalArgumentException.class, () -> board.type(EIGHT, n));
        }
        Checks.due("nothing was typed", board.type(EIGHT, 1), 1);
        Checks.due("eight", board.type(EIGHT, 8), 9);
    }

    private static void eachCharacter() {
        Checks.says("IllegalArgumentException: one is not 32 .. 126");
        for (long c = 0; c < 256; c++) {
            KingsBoard board = new KingsBoard();
            for (int k = 0; k < 8; k++) {
                long w = EIGHT & ~(255L << 8 * k) | c << 8 * k;
                if (c >= 32 && c <= 126) {
                    Checks.due(c + " as character " + k, board.type(w, 8), 8);
                    board.read();
                } else {
                    Checks.dueThrow(c + " as character " + k, IllegalArgumentException.class, () -> board.type(w, 8));
                }
            }
            Checks.due("nothing of what was refused was typed", board.type(EIGHT, 1), 1);
        }
    }

    private static void beyond() {
        Checks.says("n characters: what lies beyond them in w is not looked at");
        for (int n = 1; n <= 7; n++) {
            int count = n;
            for (long c : new long[] {0, 31, 127, 128, 255}) {
                long w = EIGHT & ~(255L << 8 * n) | c << 8 * n;
                Checks.due(c + " behind " + n, new KingsBoard().type(w, n), n);
                Checks.dueThrow(c + " as the last of " + (n + 1), IllegalArgumentException.class,
                        () -> new KingsBoard().type(w, count + 1));
            }
        }
        Checks.due("below 0", new KingsBoard().type(0xFFFFFFFFFFFFFF41L, 1), 1);
    }

    private static void room() {
        Checks.says("IllegalStateException: there would be more than 128");
        for (int n = 1; n <= 8; n++) {
            int count = n;
            KingsBoard board = new KingsBoard();
            Checks.type(board, "A".repeat(129 - n));
            Checks.dueThrow("129 with " + n, IllegalStateException.class, () -> board.type(EIGHT, count));
            if (n > 1) {
                Checks.due("128", board.type(EIGHT, n - 1), 128);
                Checks.dueThrow("one more", IllegalStateException.class, () -> board.type(EIGHT, 1));
            }
            KingsBoard exact = new KingsBoard();
            Checks.type(exact, "A".repeat(128 - n));
            Checks.due("128 with " + n, exact.type(EIGHT, n), 128);
        }
    }

    private static void roomAgain() {
        Checks.says("read(): the characters typed are used up, so that there is room again");
        KingsBoard board = new KingsBoard();
        Checks.type(board, "A".repeat(128));
        Checks.due("a fault", board.read(), 1);
        Checks.type(board, "A".repeat(127));
        Checks.due("128 again", board.type('A', 1), 128);
        board.read();
        Checks.due("none", Checks.read(board, Checks.BEGINNING), 0);
        Checks.due("one", board.type('A', 1), 1);
    }

    private static void firstException() {
        Checks.says("of several exceptions the one named first is thrown");
        KingsBoard board = new KingsBoard();
        Checks.type(board, "A".repeat(125));
        Checks.dueThrow("a wrong one of four", IllegalArgumentException.class, () -> board.type(0x41410041L, 4));
        Checks.dueThrow("none", IllegalArgumentException.class, () -> board.type('A', 0));
        Checks.dueThrow("nine", IllegalArgumentException.class, () -> board.type(EIGHT, 9));
        Checks.dueThrow("four", IllegalStateException.class, () -> board.type(EIGHT, 4));
        Checks.due("three", board.type(EIGHT, 3), 128);
    }
}
