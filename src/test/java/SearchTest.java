/** Promises 17 and 18: search and chosen. */
public final class SearchTest {
    public static void main(String[] args) {
        firstOfTheBest();
        mates();
        drawn();
        notThrice();
        leavesAsTheyAre();
        becomes();
        whatStays();
        wrongInputs();
        Checks.finish();
    }

    private static void search(String text, int depth, int value, String chosen) {
        KingsBoard board = Checks.set(text);
        Checks.due("value at " + depth + " of " + text, board.search(depth), value);
        Checks.due("chosen at " + depth + " of " + text, Checks.chosen(board), chosen);
        Checks.due("the position stays", Checks.written(board), text);
    }

    private static void firstOfTheBest() {
        search(Checks.BEGINNING, 1, 18, "b1c3");
        search(Checks.BEGINNING, 2, 0, "b1c3");
        search(Checks.BEGINNING, 3, 18, "b1c3");
        search("k7/8/8/8/8/8/P6P/K7 w - - 0 1", 1, 208 + 8, "a2a4");
    }

    private static void mates() {
        String mate = "rnb1kbnr/pppp1ppp/8/4p3/6Pq/5P2/PPPPP2P/RNBQKBNR w KQkq - 1 3";
        search(mate, 1, -30001, "none");
        search(mate, 2, -30002, "none");
        search(mate, 3, -30003, "none");
        String before = "6k1/5ppp/8/8/8/8/8/R5K1 w - - 0 1";
        search(before, 2, 30001, "a1a8");
        search(before, 3, 30002, "a1a8");
        search("7k/8/5K2/8/8/8/8/6Q1 w - - 0 1", 2, 30001, "g1g7");
        search("7k/5Q2/6K1/8/8/8/8/8 b - - 0 1", 3, 0, "none");
    }

    private static void drawn() {
        KingsBoard fifty = Checks.set("4k3/8/8/8/8/8/4q3/4K2R w - - 100 90");
        Checks.due("value", fifty.search(1), 0);
        Checks.due("the best is chosen all the same", Checks.chosen(fifty), "e1e2");
        search("4k3/8/8/8/8/8/8/4K3 w - - 0 1", 1, 0, "e1f1");
        search("4k3/8/8/8/8/8/8/N3K3 w - - 0 1", 1, 0, "a1c2");
        search("6k1/5ppp/8/8/8/8/8/R5K1 w - - 100 90", 2, 0, "a1a8");
        search("R5k1/5ppp/8/8/8/8/8/6K1 b - - 100 90", 1, -30001, "none");
        // The only move that does not make the HALVES 100 is the pawn's.
        KingsBoard worse = Checks.set("k6q/8/8/8/8/8/P7/K7 w - - 99 90");
        Checks.due("in check", worse.about(5), 1);
        Checks.due("a draw is better than a queen less", worse.search(2), 0);
    }

    private static void notThrice() {
        KingsBoard board = Checks.set("4k3/8/8/8/8/8/4P3/4K3 w - - 0 1");
        int value = board.search(1);
        Checks.play(board, "e1d1 e8d8 d1e1 d8e8 e1d1 e8d8 d1e1 d8e8");
        Checks.due("thrice", board.state(), 4);
        Checks.due("the value is the same", board.search(1), value);
    }

    private static void leavesAsTheyAre() {
        KingsBoard board = new KingsBoard();
        Checks.play(board, "f2f3 e7e5 g2g4");
        Checks.due("mate is not seen at depth 0", board.search(1), 14);
        Checks.due("chosen", Checks.chosen(board), "b8c6");
        Checks.due("but at depth 1", board.search(2), 30001);
        Checks.due("chosen", Checks.chosen(board), "d8h4");
    }

    private static void becomes() {
        search("7k/P7/8/8/8/8/8/K7 w - - 0 1", 1, 900, "a7a8=5");
        search("8/5P1k/8/6K1/8/8/8/8 w - - 0 1", 1, 904 - 12 + 3, "f7f8=5");
        // A queen on f8 would leave no legal move.
        search("8/5P1k/5K2/8/8/8/8/8 w - - 0 1", 2, 500 - 12 + 6, "f7f8=4");
    }

    private static void whatStays() {
        KingsBoard board = new KingsBoard();
        board.search(1);
        Checks.play(board, "e2e4");
        Checks.due("behind a move", Checks.chosen(board), "b1c3");
        board.back();
        Checks.dueThrow("a wrong depth", IllegalArgumentException.class, () -> board.search(4));
        Checks.due("behind a call that threw", Checks.chosen(board), "b1c3");
        Checks.due("read", Checks.read(board, "7k/5Q2/6K1/8/8/8/8/8 b - - 0 1"), 0);
        Checks.due("behind read", Checks.chosen(board), "b1c3");
        board.search(1);
        Checks.due("the latest search chose none", Checks.chosen(board), "none");
        for (int what = 0; what < 3; what++) {
            Checks.due("chosen(" + what + ")", board.chosen(what), KingsBoard.NONE);
        }
    }

    private static void wrongInputs() {
        KingsBoard board = new KingsBoard();
        for (int depth : new int[] {-1, 0, 4, Integer.MIN_VALUE, Integer.MAX_VALUE}) {
            Checks.dueThrow("search(" + depth + ")", IllegalArgumentException.class, () -> board.search(depth));
        }
        for (int round = 0; round < 2; round++) {
            for (int what : new int[] {-1, 3, Integer.MIN_VALUE, Integer.MAX_VALUE}) {
                Checks.dueThrow("chosen(" + what + ")", IllegalArgumentException.class, () -> board.chosen(what));
            }
            board.search(1);
        }
    }
}
