/** Promise 2: type. */
public final class TypingTest {
    public static void main(String[] args) {
        order();
        wrongCounts();
        wrongCharacters();
        room();
        Checks.finish();
    }

    private static void order() {
        KingsBoard board = new KingsBoard();
        Checks.due("two", board.type('8' | '/' << 8, 2), 2);
        Checks.due("one of more", board.type(0x3939393939393937L, 1), 3);
        Checks.due("read", board.read(), 1);
        Checks.due("the 7 was the last one, and more must come", board.place(), 3);
        Checks.due("used up", board.type('8', 1), 1);
    }

    private static void wrongCounts() {
        KingsBoard board = new KingsBoard();
        for (int n : new int[] {0, -1, 9, Integer.MIN_VALUE, Integer.MAX_VALUE}) {
            Checks.dueThrow("n " + n, IllegalArgumentException.class, () -> board.type(0x4141414141414141L, n));
        }
        Checks.due("nothing was typed", board.type(0x4141414141414141L, 8), 8);
    }

    private static void wrongCharacters() {
        KingsBoard board = new KingsBoard();
        for (long c : new long[] {0, 31, 127, 128, 255}) {
            Checks.dueThrow("first " + c, IllegalArgumentException.class, () -> board.type(c, 1));
            Checks.dueThrow("last " + c, IllegalArgumentException.class,
                    () -> board.type(c << 56 | 0x41414141414141L, 8));
        }
        Checks.due("what lies beyond n is not looked at", board.type(0xFFFFFFFFFFFF4141L, 2), 2);
        Checks.due("32 and 126", board.type(32 | 126 << 8, 2), 4);
    }

    private static void room() {
        KingsBoard board = new KingsBoard();
        for (int k = 1; k <= 15; k++) {
            Checks.due("eights", board.type(0x4141414141414141L, 8), 8 * k);
        }
        Checks.due("125", board.type(0x4141414141L, 5), 125);
        Checks.dueThrow("129", IllegalStateException.class, () -> board.type(0x41414141L, 4));
        Checks.dueThrow("the first exception", IllegalArgumentException.class, () -> board.type(0x41410041L, 4));
        Checks.due("128", board.type(0x414141L, 3), 128);
        Checks.dueThrow("one more", IllegalStateException.class, () -> board.type('A', 1));
        Checks.dueThrow("none more", IllegalArgumentException.class, () -> board.type('A', 0));
        Checks.due("read", board.read(), 1);
        Checks.due("room again", board.type('A', 1), 1);
    }
}
