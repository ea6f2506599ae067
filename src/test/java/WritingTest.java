/** Promises 5 and 6: write and written. */
public final class WritingTest {
    public static void main(String[] args) {
        lastWrittenStays();
        behindMoves();
        greatNumbers();
        wrongInputs();
        Checks.finish();
    }

    private static void lastWrittenStays() {
        KingsBoard board = new KingsBoard();
        Checks.due("count", board.write(), Checks.BEGINNING.length());
        Checks.play(board, "e2e4");
        Checks.due("read", Checks.read(board, "k7/8/8/8/8/8/8/7K w - - 0 1"), 0);
        for (int i = 0; i < Checks.BEGINNING.length(); i++) {
            Checks.due("written(" + i + ")", board.written(i), Checks.BEGINNING.charAt(i));
        }
        Checks.due("a shorter one", board.write(), 27);
        Checks.due("its last", board.written(26), '1');
        Checks.dueThrow("behind it", IndexOutOfBoundsException.class, () -> board.written(27));
    }

    private static void behindMoves() {
        KingsBoard board = new KingsBoard();
        Checks.play(board, "e2e4");
        Checks.due("no pawn can take", Checks.written(board),
                "rnbqkbnr/pppppppp/8/8/4P3/8/PPPP1PPP/RNBQKBNR b KQkq - 0 1");
        Checks.play(board, "g8f6 e4e5 d7d5");
        Checks.due("passed", Checks.written(board),
                "rnbqkb1r/ppp1pppp/5n2/3pP3/8/8/PPPP1PPP/RNBQKBNR w KQkq d6 0 3");
        Checks.play(board, "e1e2 e8d7");
        Checks.due("rights gone", Checks.written(board),
                "rnbq1b1r/pppkpppp/5n2/3pP3/8/8/PPPPKPPP/RNBQ1BNR w - - 2 4");
    }

    private static void greatNumbers() {
        KingsBoard board = Checks.set("k7/8/8/8/8/8/8/7K b - - 9999 9999");
        Checks.play(board, "a8a7");
        Checks.due("all their digits", Checks.written(board), "8/k7/8/8/8/8/8/7K w - - 10000 10000");
        Checks.due("halves", board.about(3), 10000);
        Checks.due("number", board.about(4), 10000);
        Checks.due("can't be read", Checks.read(board, Checks.written(board)), 1);
        Checks.due("at the digit that makes it so", board.place(), 28);
        board.back();
        Checks.due("taken back", Checks.written(board), "k7/8/8/8/8/8/8/7K b - - 9999 9999");
    }

    private static void wrongInputs() {
        KingsBoard board = new KingsBoard();
        Checks.dueThrow("nothing written", IndexOutOfBoundsException.class, () -> board.written(0));
        board.write();
        for (int i : new int[] {-1, 56, Integer.MIN_VALUE, Integer.MAX_VALUE}) {
            Checks.dueThrow("written(" + i + ")", IndexOutOfBoundsException.class, () -> board.written(i));
        }
    }
}
