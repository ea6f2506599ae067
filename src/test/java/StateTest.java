/** Promise 9: state. */
public final class StateTest {
    public static void main(String[] args) {
        mateAndStale();
        fifty();
        thrice();
        thriceDiffers();
        bare();
        least();
        oneMayGoOn();
        Checks.finish();
    }

    private static void state(String text, int due) {
        Checks.due("state of " + text, Checks.set(text).state(), due);
    }

    private static void mateAndStale() {
        state("rnb1kbnr/pppp1ppp/8/4p3/6Pq/5P2/PPPPP2P/RNBQKBNR w KQkq - 1 3", 1);
        state("R5k1/5ppp/8/8/8/8/8/6K1 b - - 0 1", 1);
        state("6rk/5Npp/8/8/8/8/8/6K1 b - - 0 1", 1);
        state("7k/5Q2/6K1/8/8/8/8/8 b - - 0 1", 2);
        state("7k/5Q2/6K1/8/8/8/8/8 w - - 0 1", 0);
        state("8/8/8/8/8/5k2/5p2/5K2 w - - 0 1", 2);
        state("R5k1/5pp1/7p/8/8/8/8/6K1 b - - 0 1", 0);
    }

    private static void fifty() {
        state("4k3/8/8/8/8/8/4P3/4K3 w - - 99 90", 0);
        state("4k3/8/8/8/8/8/4P3/4K3 w - - 100 90", 3);
        state("4k3/8/8/8/8/8/4P3/4K3 w - - 9999 90", 3);
        KingsBoard board = Checks.set("4k3/8/8/8/8/8/4P3/4K3 w - - 99 90");
        Checks.play(board, "e1d1");
        Checks.due("a king's move", board.state(), 3);
        board.back();
        Checks.due("taken back", board.state(), 0);
        Checks.play(board, "e2e3");
        Checks.due("a pawn's move", board.state(), 0);
    }

    private static void thrice() {
        KingsBoard board = new KingsBoard();
        Checks.play(board, "g1f3 g8f6 f3g1 f6g8");
        Checks.due("once before", board.state(), 0);
        Checks.play(board, "g1f3 g8f6 f3g1");
        Checks.due("once before, one move on", board.state(), 0);
        Checks.play(board, "f6g8");
        Checks.due("twice before", board.state(), 4);
        board.back();
        Checks.due("taken back", board.state(), 0);
        Checks.play(board, "f6g8");
        Checks.due("what was taken back does not count", board.state(), 4);
        Checks.play(board, "g1f3");
        Checks.due("another one twice before", board.state(), 4);
        Checks.play(board, "g8f6 f3g1 f6g8");
        Checks.due("thrice before", board.state(), 4);
        for (int k = 0; k < 4; k++) {
            board.back();
        }
        for (int k = 0; k < 4; k++) {
            board.back();
            Checks.due("far back", board.state(), 0);
        }
    }

    private static void thriceDiffers() {
        KingsBoard rights = Checks.set("4k3/8/8/8/8/8/p7/4K2R w K - 0 1");
        Checks.play(rights, "h1h2 e8d8 h2h1 d8e8 h1h2 e8d8 h2h1 d8e8");
        Checks.due("a right less than in the beginning", rights.state(), 0);
        Checks.play(rights, "h1h2");
        Checks.due("all alike", rights.state(), 4);
        KingsBoard passed = Checks.set("4k3/3p4/8/4P3/8/8/8/4K3 b - - 0 1");
        Checks.play(passed, "d7d5 e1d1 e8d8 d1e1 d8e8 e1d1 e8d8 d1e1 d8e8");
        Checks.due("the passed square was another", passed.state(), 0);
        Checks.play(passed, "e1d1");
        Checks.due("all alike again", passed.state(), 4);
        KingsBoard side = Checks.set("4k3/p7/8/8/8/8/8/R3K3 w - - 0 1");
        Checks.play(side, "e1d1 e8d8 d1d2 d8e8 d2e1 e8d8 e1d1 d8e8 d1e1");
        Checks.due("the same men with the other side to move", side.state(), 0);
    }

    private static void bare() {
        state("4k3/8/8/8/8/8/8/4K3 w - - 0 1", 5);
        state("4k3/8/8/8/8/8/8/4K1N1 w - - 0 1", 5);
        state("4k1n1/8/8/8/8/8/8/4K3 w - - 0 1", 5);
        state("4k1n1/8/8/8/8/8/8/4K1N1 w - - 0 1", 0);
        state("4k3/8/8/8/8/8/8/4KNN1 w - - 0 1", 0);
        state("4k3/8/8/8/8/8/8/4K1BN w - - 0 1", 0);
        state("4k3/8/8/8/8/8/8/4K1B1 w - - 0 1", 5);
        state("4k3/8/8/8/8/8/8/4KB2 w - - 0 1", 5);
        state("4k3/8/8/8/8/8/8/4KBB1 w - - 0 1", 0);
        state("4k3/8/8/8/8/6B1/7B/4K1B1 w - - 0 1", 5);
        state("2b1k3/8/8/8/8/8/8/4KB2 w - - 0 1", 5);
        state("2b1k3/8/8/8/8/8/8/4K1B1 w - - 0 1", 0);
        state("4k3/8/8/8/8/8/4P3/4K3 w - - 0 1", 0);
        state("4k3/8/8/8/8/8/4p3/4K3 w - - 0 1", 0);
        state("4k3/8/8/8/8/8/8/R3K3 w - - 0 1", 0);
        state("q3k3/8/8/8/8/8/8/4K3 w - - 0 1", 0);
    }

    private static void least() {
        state("R5k1/5ppp/8/8/8/8/8/6K1 b - - 100 60", 1);
        state("7k/5Q2/6K1/8/8/8/8/8 b - - 100 60", 2);
        state("4k3/8/8/8/8/8/8/4K3 w - - 100 60", 3);
        state("8/8/8/8/8/6k1/7b/7K w - - 0 1", 2);
        state("7k/7B/5BK1/8/8/8/8/8 b - - 0 1", 1);
        KingsBoard board = Checks.set("4k3/8/8/8/8/8/8/4K3 w - - 0 1");
        Checks.play(board, "e1d1 e8d8 d1e1 d8e8 e1d1 e8d8 d1e1");
        Checks.due("bare", board.state(), 5);
        Checks.play(board, "d8e8");
        Checks.due("thrice is less than bare", board.state(), 4);
        KingsBoard both = Checks.set("4k3/8/8/8/8/8/4P3/4K3 w - - 92 60");
        Checks.play(both, "e1d1 e8d8 d1e1 d8e8 e1d1 e8d8 d1e1 d8e8");
        Checks.due("fifty is less than thrice", both.state(), 3);
    }

    private static void oneMayGoOn() {
        KingsBoard bare = Checks.set("4k3/8/8/8/8/8/8/4K3 w - - 200 1");
        Checks.due("moves", bare.moves(), 5);
        Checks.due("a move", Checks.play(bare, "e1e2"), 0);
        KingsBoard mate = Checks.set("R5k1/5ppp/8/8/8/8/8/6K1 b - - 0 1");
        Checks.due("no moves", mate.moves(), 0);
        Checks.dueThrow("a move", IllegalStateException.class, () -> Checks.play(mate, "g8h8"));
    }
}
