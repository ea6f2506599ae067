/** Promises 13 and 14: play and back. */
public final class PlayTest {
    public static void main(String[] args) {
        taken();
        castling();
        rights();
        passed();
        counters();
        becomes();
        backAll();
        mostToTakeBack();
        wrongInputs();
        Checks.finish();
    }

    private static void play(String text, String moves, int taken, String behind) {
        KingsBoard board = Checks.set(text);
        Checks.due("taken by " + moves, Checks.play(board, moves), taken);
        Checks.due("behind " + moves, Checks.written(board), behind);
        int count = moves.split(" ").length;
        for (int left = count - 1; left >= 0; left--) {
            Checks.due("left", board.back(), left);
        }
        Checks.due("taken back", Checks.written(board), text);
    }

    private static void taken() {
        play("4k3/8/8/8/8/8/8/Rq2K3 w - - 5 7", "a1b1", -5, "4k3/8/8/8/8/8/8/1R2K3 b - - 0 7");
        play("rQ2k3/8/8/8/8/8/8/4K3 b - - 5 7", "a8b8", 5, "1r2k3/8/8/8/8/8/8/4K3 w - - 0 8");
        play("4k3/8/8/3pP3/8/8/8/4K3 w - d6 0 1", "e5d6", -1, "4k3/8/3P4/8/8/8/8/4K3 b - - 0 1");
        play("4k3/8/8/8/3pP3/8/8/4K3 b - e3 0 1", "d4e3", 1, "4k3/8/8/8/8/4p3/8/4K3 w - - 0 2");
        play("4k3/8/8/8/8/8/8/4K2n w - - 5 7", "e1f1", 0, "4k3/8/8/8/8/8/8/5K1n b - - 6 7");
    }

    private static void castling() {
        String men = "r3k2r/8/8/8/8/8/8/R3K2R ";
        play(men + "w KQkq - 3 9", "e1g1", 0, "r3k2r/8/8/8/8/8/8/R4RK1 b kq - 4 9");
        play(men + "w KQkq - 3 9", "e1c1", 0, "r3k2r/8/8/8/8/8/8/2KR3R b kq - 4 9");
        play(men + "b KQkq - 3 9", "e8g8", 0, "r4rk1/8/8/8/8/8/8/R3K2R w KQ - 4 10");
        play(men + "b KQkq - 3 9", "e8c8", 0, "2kr3r/8/8/8/8/8/8/R3K2R w KQ - 4 10");
    }

    private static void right(String text, String moves, int rights) {
        KingsBoard board = Checks.set(text);
        Checks.play(board, moves);
        Checks.due("rights behind " + moves, board.about(1), rights);
    }

    private static void rights() {
        String white = "r3k2r/8/8/8/8/8/8/R3K2R w KQkq - 0 1";
        String black = "r3k2r/8/8/8/8/8/8/R3K2R b KQkq - 0 1";
        right(white, "a1b1", 13);
        right(white, "h1g1", 14);
        right(white, "e1e2", 12);
        right(white, "a1a8", 5);
        right(white, "h1h8", 10);
        right(black, "a8b8", 7);
        right(black, "h8g8", 11);
        right(black, "e8e7", 3);
        right(black, "a8a1", 5);
        right(black, "h8h1", 10);
        right(white, "a1b1 a8b8 b1a1 b8a8", 5);
        right(white, "e1e2 e8e7 e2e1 e7e8", 0);
        right("r3k2r/6P1/8/8/8/8/8/R3K2R w KQkq - 0 1", "g7h8=2", 11);
        right("4k2r/8/8/8/8/8/8/R3K3 w Qk - 0 1", "a1a8", 4);
    }

    private static void passed() {
        KingsBoard board = Checks.set("4k3/3p4/8/4P3/8/8/8/4K3 b - - 0 1");
        Checks.play(board, "d7d5");
        Checks.due("the passed square", board.about(2), Checks.at("d6"));
        Checks.play(board, "e1e2");
        Checks.due("gone behind another move", board.about(2), KingsBoard.NONE);
        board.back();
        Checks.due("taken back", board.about(2), Checks.at("d6"));
        board.back();
        Checks.play(board, "d7d6");
        Checks.due("by one", board.about(2), KingsBoard.NONE);
        KingsBoard pinned = Checks.set("4k3/3p4/8/K3P2q/8/8/8/8 b - - 0 1");
        Checks.play(pinned, "d7d5");
        Checks.due("no legal move", pinned.about(2), KingsBoard.NONE);
        KingsBoard check = Checks.set("4k3/3p4/8/4P3/8/4K3/8/1b6 b - - 0 1");
        Checks.play(check, "d7d5");
        Checks.due("a legal one", check.about(2), Checks.at("d6"));
        KingsBoard white = Checks.set("4k3/8/8/8/6p1/8/7P/4K3 w - - 0 1");
        Checks.play(white, "h2h4");
        Checks.due("black may take", white.about(2), Checks.at("h3"));
        KingsBoard edge = Checks.set("4k3/8/8/p7/8/8/7P/4K3 w - - 0 1");
        Checks.play(edge, "h2h4");
        Checks.due("not round the edge", edge.about(2), KingsBoard.NONE);
    }

    private static void counters() {
        KingsBoard board = Checks.set("4k3/8/8/8/8/8/4P3/4K2r w - - 20 30");
        Checks.play(board, "e1d2");
        Checks.due("halves", board.about(3), 21);
        Checks.due("number", board.about(4), 30);
        Checks.play(board, "h1h8");
        Checks.due("halves", board.about(3), 22);
        Checks.due("number", board.about(4), 31);
        Checks.play(board, "e2e3");
        Checks.due("behind a pawn's move", board.about(3), 0);
        Checks.due("back", board.back(), 2);
        Checks.due("halves again", board.about(3), 22);
    }

    private static void becomes() {
        String text = "1n5k/P7/8/8/8/8/8/7K w - - 9 1";
        String[] letters = {"", "", "N", "B", "R", "Q"};
        for (int man = 2; man <= 5; man++) {
            play(text, "a7a8=" + man, 0, letters[man] + "n5k/8/8/8/8/8/8/7K b - - 0 1");
            play(text, "a7b8=" + man, -2, "1" + letters[man] + "5k/8/8/8/8/8/8/7K b - - 0 1");
        }
        KingsBoard board = Checks.set(text);
        for (int man : new int[] {0, 1, 6, 7, 8, -1, -5, 5 + 8, Integer.MIN_VALUE, Integer.MAX_VALUE}) {
            Checks.dueThrow("becomes " + man, IllegalStateException.class,
                    () -> board.play(Checks.at("a7"), Checks.at("a8"), man));
        }
        KingsBoard beginning = new KingsBoard();
        for (int man : new int[] {1, 2, 5, 8, 512, -1}) {
            Checks.dueThrow("no pawn of the last rank becomes " + man, IllegalStateException.class,
                    () -> beginning.play(Checks.at("e2"), Checks.at("e4"), man));
        }
        KingsBoard black = Checks.set("7k/8/8/8/8/8/p7/7K b - - 0 1");
        Checks.play(black, "a2a1=4");
        Checks.due("black's rook", black.man(0), -4);
    }

    private static void backAll() {
        KingsBoard board = new KingsBoard();
        for (int k = 0; k < 256; k += 4) {
            Checks.play(board, "g1f3 g8f6 f3g1 f6g8");
        }
        Checks.due("halves", board.about(3), 256);
        for (int left = 255; left >= 0; left--) {
            Checks.due("left", board.back(), left);
        }
        Checks.due("the beginning", Checks.written(board), Checks.BEGINNING);
        Checks.dueThrow("none to take back", IllegalStateException.class, board::back);
    }

    // Calls behind the 512th are free, but the limit that the document names is kept there too.
    private static void mostToTakeBack() {
        KingsBoard board = new KingsBoard();
        for (int k = 0; k < 1024; k += 4) {
            Checks.play(board, "g1f3 g8f6 f3g1 f6g8");
        }
        Checks.dueThrow("one more", IllegalStateException.class, () -> Checks.play(board, "g1f3"));
        Checks.due("nothing has changed", board.about(3), 1024);
        Checks.due("left", board.back(), 1023);
        Checks.due("one again", Checks.play(board, "f6g8"), 0);
    }

    private static void wrongInputs() {
        KingsBoard board = new KingsBoard();
        for (int square : new int[] {-1, 64, 64 + 12, Integer.MIN_VALUE, Integer.MAX_VALUE}) {
            Checks.dueThrow("from " + square, IndexOutOfBoundsException.class, () -> board.play(square, 28, 0));
            Checks.dueThrow("to " + square, IndexOutOfBoundsException.class, () -> board.play(12, square, 9));
        }
        for (String move : new String[] {"e2e5", "e7e5", "e4e5", "e1e2", "e1g1", "a1a3", "e2e2", "d1d3", "g1e2"}) {
            Checks.dueThrow(move, IllegalStateException.class, () -> Checks.play(board, move));
        }
        Checks.due("nothing has changed", Checks.written(board), Checks.BEGINNING);
        Checks.dueThrow("nothing to take back", IllegalStateException.class, board::back);
        KingsBoard pinned = Checks.set("4r2k/8/8/8/8/8/4N3/4K3 w - - 0 1");
        Checks.dueThrow("a pinned man", IllegalStateException.class, () -> Checks.play(pinned, "e2c3"));
    }
}
