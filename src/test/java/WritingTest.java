/** WRITTEN, and promises 5 and 6: write and written. */
public final class WritingTest {
    public static void main(String[] args) {
        howMany();
        digits();
        letters();
        fields();
        numbers();
        beyond9999();
        lastWritten();
        behindMoves();
        wrongInputs();
        Checks.finish();
    }

    private static void same(String... texts) {
        for (String text : texts) {
            Checks.due("written", Checks.written(Checks.set(text)), text);
            Checks.due("written", Checks.written(Checks.set(Mirror.text(text))), Mirror.text(text));
        }
    }

    private static void howMany() {
        Checks.says("write(): the position is written: how many characters");
        Checks.due("the beginning", new KingsBoard().write(), Checks.BEGINNING.length());
        Checks.due("few", Checks.set("k7/8/8/8/8/8/8/7K w - - 0 1").write(), 27);
        String most = "r1b1k2r/1p1p1p1p/p1p1p1p1/1n1q1b1n/N1B1Q1N1/1P1P1P1P/P1P1P1P1/R3K2R w KQkq - 9999 9999";
        Checks.due("many", Checks.set(most).write(), most.length());
        same(most);
    }

    private static void digits() {
        Checks.says("digits 1 .. 8 for as many free squares together");
        for (int column = 0; column < 8; column++) {
            String row = (column > 0 ? "" + column : "") + "n" + (column < 7 ? "" + (7 - column) : "");
            same("k7/8/8/8/" + row + "/8/8/7K w - - 0 1");
        }
        for (String row : new String[] {"1n1n1n1n", "n1n2n1n", "nnnnnnnn", "n6n", "3nn3"}) {
            same("k7/8/8/8/" + row + "/8/8/7K w - - 0 1");
        }
    }

    private static void letters() {
        Checks.says("letters P N B R Q K for WHITE, p n b r q k for BLACK, from row 7 down, by columns");
        same(Checks.BEGINNING, "rnbqkbnr/pppppppp/8/8/8/8/PPPPPPPP/RNBQKBNR b KQkq - 0 1");
        same("3k4/8/1p1n4/8/3B3R/8/P5q1/b1Q1K3 w - - 0 1");
    }

    private static void fields() {
        Checks.says("w or b; K, Q, k, q in this order, or 45 for none");
        for (String letters : new String[] {"-", "K", "Q", "k", "q", "KQ", "Kk", "Kq", "Qk", "Qq", "kq", "KQkq", "Qkq"}) {
            same("r3k2r/8/8/8/8/8/8/R3K2R w " + letters + " - 0 1", "r3k2r/8/8/8/8/8/8/R3K2R b " + letters + " - 0 1");
        }
        Checks.says("the PASSED square as a letter a .. h for its column and a digit for its row, or 45");
        same("4k3/8/8/pP6/8/8/8/4K3 w - a6 0 1", "4k3/8/8/1pP5/8/8/8/4K3 w - b6 0 1", "4k3/8/8/1Pp5/8/8/8/4K3 w - c6 0 1");
        same("4k3/8/8/6Pp/8/8/8/4K3 w - h6 0 1", "4k3/8/8/5Pp1/8/8/8/4K3 w - g6 0 1", "4k3/8/8/3Pp3/8/8/8/4K3 w - e6 0 1");
        same("4k3/8/8/3Pp3/8/8/8/4K3 w - - 0 1");
    }

    private static void numbers() {
        Checks.says("the HALVES; 32; the NUMBER: in digits without a 0 before others");
        for (int number : new int[] {0, 1, 9, 10, 11, 99, 100, 101, 999, 1000, 1001, 9990, 9999}) {
            same("k7/8/8/8/8/8/8/7K w - - " + number + " 1", "k7/8/8/8/8/8/8/7K b - - 0 " + Math.max(1, number));
        }
    }

    private static void beyond9999() {
        Checks.says("(a POSITION's own may grow beyond: they are written with all their digits then, and can't be read)");
        KingsBoard board = Checks.set("k7/8/8/8/8/8/8/7K b - - 9999 9999");
        Checks.play(board, "a8a7");
        Checks.due("all their digits", Checks.written(board), "8/k7/8/8/8/8/8/7K w - - 10000 10000");
        Checks.due("HALVES", board.about(3), 10000);
        Checks.due("NUMBER", board.about(4), 10000);
        Checks.due("can't be read", Checks.read(board, Checks.written(board)), 1);
        Checks.due("at the digit that makes it so", board.place(), 28);
        board.back();
        Checks.due("taken back", Checks.written(board), "k7/8/8/8/8/8/8/7K b - - 9999 9999");
        KingsBoard number = Checks.set("k7/8/8/8/8/8/P7/7K b - - 0 9999");
        Checks.play(number, "a8a7 a2a3");
        Checks.due("the NUMBER alone", Checks.written(number), "8/k7/8/8/8/P7/8/7K b - - 0 10000");
        Checks.due("can't be read", Checks.read(number, Checks.written(number)), 1);
        Checks.due("at the digit that makes it so", number.place(), Checks.written(number).length() - 1);
    }

    private static void lastWritten() {
        Checks.says("written(i): character i of what was written last");
        KingsBoard board = new KingsBoard();
        board.write();
        Checks.play(board, "e2e4");
        Checks.due("read", Checks.read(board, "k7/8/8/8/8/8/8/7K w - - 0 1"), 0);
        for (int i = 0; i < Checks.BEGINNING.length(); i++) {
            Checks.due("written(" + i + ")", board.written(i), Checks.BEGINNING.charAt(i));
        }
        Checks.due("a shorter one", board.write(), 27);
        Checks.due("its first", board.written(0), 'k');
        Checks.due("its last", board.written(26), '1');
        Checks.dueThrow("behind it", IndexOutOfBoundsException.class, () -> board.written(27));
    }

    private static void behindMoves() {
        Checks.says("WRITTEN a position is .. (behind moves)");
        KingsBoard board = new KingsBoard();
        Checks.play(board, "e2e4");
        Checks.due("no pawn can take", Checks.written(board),
                "rnbqkbnr/pppppppp/8/8/4P3/8/PPPP1PPP/RNBQKBNR b KQkq - 0 1");
        Checks.play(board, "g8f6 e4e5 d7d5");
        Checks.due("passed", Checks.written(board),
                "rnbqkb1r/ppp1pppp/5n2/3pP3/8/8/PPPP1PPP/RNBQKBNR w KQkq d6 0 3");
        Checks.play(board, "e1e2 e8d7");
        Checks.due("rights gone", Checks.written(board),
                "rnbq1b1r/pppkpppp/5n2/3pP3/8/8/PPPPKPPP/RNBQ1BNR w - - 2 4");
    }

    private static void wrongInputs() {
        Checks.says("written: IndexOutOfBoundsException");
        KingsBoard board = new KingsBoard();
        Checks.dueThrow("nothing written", IndexOutOfBoundsException.class, () -> board.written(0));
        board.write();
        for (int i : new int[] {-1, 56, 127, 128, Integer.MIN_VALUE, Integer.MAX_VALUE}) {
            Checks.dueThrow("written(" + i + ")", IndexOutOfBoundsException.class, () -> board.written(i));
        }
        Checks.due("the last one", board.written(55), '1');
        Checks.due("the first one", board.written(0), 'r');
    }
}
