/** Promises 11 and 12: moves and move. */
public final class MovesTest {
    public static void main(String[] args) {
        order();
        castling();
        castlingForbidden();
        pawns();
        passed();
        checks();
        manyMoves();
        wrongInputs();
        Checks.finish();
    }

    private static void moves(String text, String due) {
        Checks.due("moves of " + text, Checks.moves(Checks.set(text)), due);
    }

    private static boolean has(String text, String move) {
        return (" " + Checks.moves(Checks.set(text)) + " ").contains(" " + move + " ");
    }

    private static void order() {
        Checks.due("the beginning", Checks.moves(new KingsBoard()),
                "b1a3 b1c3 g1f3 g1h3 a2a3 a2a4 b2b3 b2b4 c2c3 c2c4 "
                        + "d2d3 d2d4 e2e3 e2e4 f2f3 f2f4 g2g3 g2g4 h2h3 h2h4");
        moves("1n5k/P7/8/8/8/8/8/7K w - - 0 1",
                "h1g1 h1g2 h1h2 a7a8=2 a7a8=3 a7a8=4 a7a8=5 a7b8=2 a7b8=3 a7b8=4 a7b8=5");
        moves("7k/8/8/8/8/8/p7/1N5K b - - 0 1",
                "a2a1=2 a2a1=3 a2a1=4 a2a1=5 a2b1=2 a2b1=3 a2b1=4 a2b1=5 h8g7 h8h7 h8g8");
    }

    private static void castling() {
        moves("7k/8/8/8/8/p2p1p1p/P2P1P1P/R3K2R w KQ - 0 1",
                "a1b1 a1c1 a1d1 e1c1 e1d1 e1f1 e1g1 h1f1 h1g1");
        moves("r3k2r/p2p1p1p/P2P1P1P/8/8/8/8/7K b kq - 0 1",
                "a8b8 a8c8 a8d8 e8c8 e8d8 e8f8 e8g8 h8f8 h8g8");
        Checks.due("no right", has("4k3/8/8/8/8/8/8/R3K2R w Q - 0 1", "e1g1"), false);
        Checks.due("the right", has("4k3/8/8/8/8/8/8/R3K2R w Q - 0 1", "e1c1"), true);
        Checks.due("the rook is attacked", has("r3k3/8/8/8/8/8/8/R3K3 w Q - 0 1", "e1c1"), true);
        Checks.due("the square beside the rook is", has("1r2k3/8/8/8/8/8/8/R3K3 w Q - 0 1", "e1c1"), true);
    }

    private static void castlingForbidden() {
        Checks.due("in check", has("4r3/1k6/8/8/8/8/8/R3K2R w KQ - 0 1", "e1g1"), false);
        Checks.due("in check, long", has("4r3/1k6/8/8/8/8/8/R3K2R w KQ - 0 1", "e1c1"), false);
        Checks.due("passes an attacked one", has("5r2/1k6/8/8/8/8/8/R3K2R w KQ - 0 1", "e1g1"), false);
        Checks.due("comes to one", has("6r1/1k6/8/8/8/8/8/R3K2R w KQ - 0 1", "e1g1"), false);
        Checks.due("long, passes one", has("3r4/1k6/8/8/8/8/8/R3K2R w KQ - 0 1", "e1c1"), false);
        Checks.due("long, comes to one", has("2r5/1k6/8/8/8/8/8/R3K2R w KQ - 0 1", "e1c1"), false);
        Checks.due("a man between", has("4k3/8/8/8/8/8/8/RN2K2R w KQ - 0 1", "e1c1"), false);
        Checks.due("another between", has("4k3/8/8/8/8/8/8/R2nK2R w KQ - 0 1", "e1c1"), false);
        Checks.due("the short way", has("4k3/8/8/8/8/8/8/R3K1NR w KQ - 0 1", "e1g1"), false);
        Checks.due("by a pawn", has("r3k2r/6P1/8/8/8/8/8/4K3 b kq - 0 1", "e8g8"), false);
        Checks.due("by the other king", has("8/8/8/8/8/8/1k6/R3K3 w Q - 0 1", "e1c1"), false);
    }

    private static void pawns() {
        moves("7k/8/8/8/8/1p1p4/P1PP4/7K w - - 0 1",
                "h1g1 h1g2 h1h2 a2a3 a2b3 a2a4 c2b3 c2c3 c2d3 c2c4");
        moves("7k/8/8/8/n7/8/P6p/7K w - - 0 1", "h1g2 h1h2 a2a3");
        moves("7k/p1pp4/1P1P4/8/8/8/8/7K b - - 0 1",
                "a7a5 a7a6 a7b6 c7c5 c7b6 c7c6 c7d6 h8g7 h8h7 h8g8");
        moves("7k/8/8/p6p/P6P/8/8/7K w - - 0 1", "h1g1 h1g2 h1h2");
    }

    private static void passed() {
        Checks.due("taken so", has("4k3/8/8/2PpP3/8/8/8/4K3 w - d6 0 1", "c5d6"), true);
        Checks.due("by the other too", has("4k3/8/8/2PpP3/8/8/8/4K3 w - d6 0 1", "e5d6"), true);
        Checks.due("but not without", has("4k3/8/8/2PpP3/8/8/8/4K3 w - - 0 1", "e5d6"), false);
        Checks.due("black's", has("4k3/8/8/8/3pP3/8/8/4K3 b - e3 0 1", "d4e3"), true);
        Checks.due("not round the edge", has("4k3/8/8/p6P/1P6/8/8/4K3 w - a6 0 1", "h5a6"), false);
        Checks.due("two leave the row", has("8/8/8/K2pP2q/8/8/8/7k w - d6 0 1", "e5d6"), false);
        Checks.due("the pawn gives check", has("8/8/8/3pP3/4K3/8/8/7k w - d6 0 1", "e5d6"), true);
        Checks.due("no other answer", has("8/8/8/3pP3/4K3/8/P7/7k w - d6 0 1", "a2a3"), false);
        Checks.due("the slant opens", has("6bk/8/8/3pP3/8/1K6/8/8 w - d6 0 1", "e5d6"), false);
        Checks.due("pinned along its way", has("6bk/8/8/2pP4/8/1K6/8/8 w - c6 0 1", "d5c6"), false);
        Checks.due("pinned, and stays in line", has("b6k/8/8/2pP4/8/5K2/8/8 w - c6 0 1", "d5c6"), true);
    }

    private static void checks() {
        moves("4r2k/8/8/8/8/8/3R4/3QKB2 w - - 0 1", "d1e2 e1f2 f1e2 d2e2");
        moves("4r3/1k6/8/8/1b6/8/8/R3K2R w KQ - 0 1", "e1d1 e1f1 e1f2");
        moves("7k/8/8/8/8/8/3q4/4K3 w - - 0 1", "e1f1 e1d2");
        moves("3r3k/8/8/8/8/8/3q4/4K3 w - - 0 1", "e1f1");
        moves("4r2k/8/8/8/8/4R3/8/4K3 w - - 0 1",
                "e1d1 e1f1 e1d2 e1e2 e1f2 e3e2 e3e4 e3e5 e3e6 e3e7 e3e8");
        moves("7k/8/8/8/8/8/8/K6r w - - 0 1", "a1a2 a1b2");
        moves("7k/8/8/8/7b/8/5N2/4K3 w - - 0 1", "e1d1 e1f1 e1d2 e1e2");
    }

    private static void manyMoves() {
        KingsBoard board = Checks.set("R6R/3Q4/1Q4Q1/4Q3/2Q4Q/Q4Q2/pp1Q4/kBNN1KB1 w - - 0 1");
        Checks.due("moves", board.moves(), 218);
        Checks.due("the last one's square", board.move(217, 0), Checks.at("h8"));
    }

    private static void wrongInputs() {
        KingsBoard board = new KingsBoard();
        for (int i : new int[] {-1, 20, Integer.MIN_VALUE, Integer.MAX_VALUE}) {
            Checks.dueThrow("move " + i, IndexOutOfBoundsException.class, () -> board.move(i, 0));
            Checks.dueThrow("the first exception", IndexOutOfBoundsException.class, () -> board.move(i, 3));
        }
        for (int what : new int[] {-1, 3, Integer.MIN_VALUE, Integer.MAX_VALUE}) {
            Checks.dueThrow("what " + what, IllegalArgumentException.class, () -> board.move(19, what));
        }
        KingsBoard mate = Checks.set("R5k1/5ppp/8/8/8/8/8/6K1 b - - 0 1");
        Checks.dueThrow("no moves", IndexOutOfBoundsException.class, () -> mate.move(0, 0));
    }
}
