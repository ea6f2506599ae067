/** MOVE: a king with a RIGHT goes two columns to the rook's side; and when RIGHTS go. */
public final class CastlingTest {
    public static void main(String[] args) {
        right();
        between();
        notInCheck();
        passes();
        comes();
        rookMayBeAttacked();
        rookGoes();
        kingMoves();
        rookMoves();
        takenInCorner();
        rightsStay();
        Checks.finish();
    }

    /** A row 0 with king and rooks, and men above, for the two sides. */
    private static void legal(String men, String rights, String move, boolean due) {
        Checks.legal(men + " w " + rights + " - 0 1", move, due);
    }

    private static void right() {
        Checks.says("a king with a RIGHT may go two columns to the rook's side (short: to column 6, long: to column 2)");
        String men = "4k3/8/8/8/8/8/8/R3K2R";
        legal(men, "K", "e1g1", true);
        legal(men, "K", "e1c1", false);
        legal(men, "Q", "e1g1", false);
        legal(men, "Q", "e1c1", true);
        legal(men, "KQ", "e1g1", true);
        legal(men, "KQ", "e1c1", true);
        legal(men, "-", "e1g1", false);
        legal(men, "-", "e1c1", false);
        legal(men, "KQ", "e1b1", false);
        legal(men, "KQ", "e1h1", false);
        legal("r3k2r/8/8/8/8/8/8/R3K2R", "kq", "e1g1", false);
        legal("r3k2r/8/8/8/8/8/8/R3K2R", "kq", "e1c1", false);
        legal("r3k2r/8/8/8/8/8/8/R3K2R", "K", "e1g1", true);
        legal("4k3/8/8/8/8/8/4K3/R6R", "-", "e2g2", false);
        legal("4k3/8/8/8/8/8/4K3/R6R", "-", "e2c2", false);
    }

    private static void between() {
        Checks.says("if no man stands between him and the rook");
        for (String man : new String[] {"N", "n", "B", "b"}) {
            // The other side's men stand where they reach neither the king nor his way.
            legal("4k3/8/8/8/8/8/8/R3K1" + man + "R", "KQ", "e1g1", false);
            legal("4k3/8/8/8/8/8/8/R3K" + man + "1R", "KQ", "e1g1", false);
            legal("4k3/8/8/8/8/8/8/R" + man + "2K2R", "KQ", "e1c1", false);
            legal("4k3/8/8/8/8/8/8/R1" + man + "1K2R", "KQ", "e1c1", false);
            legal("4k3/8/8/8/8/8/8/R2" + man + "K2R", "KQ", "e1c1", false);
        }
        legal("4k3/8/8/8/8/8/8/RN2K2R", "KQ", "e1g1", true);
        legal("4k3/8/8/8/8/8/8/R3K1NR", "KQ", "e1c1", true);
        legal("4k3/8/8/8/8/8/PPPPPPPP/R3K2R", "KQ", "e1g1", true);
        legal("4k3/8/8/8/8/8/PPPPPPPP/R3K2R", "KQ", "e1c1", true);
    }

    private static void notInCheck() {
        Checks.says("he isn't in check");
        String[] checks = {
            "4r3/1k6/8/8/8/8/8/R3K2R", "8/1k6/8/8/1b6/8/8/R3K2R", "8/1k6/8/8/8/3n4/8/R3K2R", "8/1k6/8/8/8/8/3p4/R3K2R",
            "8/1k6/8/8/8/8/5p2/R3K2R", "8/1k6/8/8/8/6q1/8/R3K2R",
        };
        for (String men : checks) {
            legal(men, "KQ", "e1g1", false);
            legal(men, "KQ", "e1c1", false);
        }
        legal("4r3/1k6/8/8/8/8/4P3/R3K2R", "KQ", "e1g1", true);
        legal("4r3/1k6/8/8/8/8/4P3/R3K2R", "KQ", "e1c1", true);
    }

    private static void passes() {
        Checks.says("the square that he passes is not attacked");
        String[] shorts = {
            "5r2/1k6/8/8/8/8/8/R3K2R", "8/1k6/8/8/2b5/8/8/R3K2R", "8/1k6/8/8/8/6n1/8/R3K2R", "8/1k6/8/8/8/8/6p1/R3K2R",
        };
        for (String men : shorts) {
            legal(men, "KQ", "e1g1", false);
            legal(men, "KQ", "e1c1", true);
        }
        String[] longs = {
            "3r4/1k6/8/8/8/8/8/R3K2R", "8/1k6/8/8/6b1/8/8/R3K2R", "8/1k6/8/8/8/8/1n6/R3K2R", "8/1k6/8/8/8/8/2p5/R3K2R",
        };
        for (String men : longs) {
            legal(men, "KQ", "e1c1", false);
            legal(men, "KQ", "e1g1", true);
        }
        legal("5r2/1k6/8/8/8/8/5P2/R3K2R", "KQ", "e1g1", true);
    }

    private static void comes() {
        Checks.says("nor the one to which he comes");
        String[] shorts = {
            "6r1/1k6/8/8/8/8/8/R3K2R", "8/1k6/8/8/3b4/8/8/R3K2R", "8/1k6/8/8/8/7n/8/R3K2R", "8/1k6/8/8/8/8/7p/R3K2R",
            "8/8/8/8/8/8/6k1/R3K2R",
        };
        for (String men : shorts) {
            legal(men, "KQ", "e1g1", false);
        }
        String[] longs = {
            "2r5/7k/8/8/8/8/8/R3K3", "8/7k/8/8/5b2/8/8/R3K3", "8/7k/8/8/8/1n6/8/R3K3", "8/7k/8/8/8/8/1p6/R3K3",
            "8/8/8/8/8/8/1k6/R3K3",
        };
        for (String men : longs) {
            legal(men, "Q", "e1c1", false);
        }
        legal("6r1/1k6/8/8/8/8/6P1/R3K2R", "KQ", "e1g1", true);
        legal("2r5/1k6/8/8/8/8/2P5/R3K2R", "KQ", "e1c1", true);
    }

    private static void rookMayBeAttacked() {
        Checks.says("neither the square that he passes nor the one to which he comes: no other square counts");
        legal("7r/1k6/8/8/8/8/8/R3K2R", "KQ", "e1g1", true);
        legal("r7/1k6/8/8/8/8/8/R3K2R", "KQ", "e1c1", true);
        legal("1r6/3k4/8/8/8/8/8/R3K2R", "KQ", "e1c1", true);
        legal("8/1k6/8/8/8/3b4/8/R3K2R", "KQ", "e1c1", true);
    }

    private static void rookGoes() {
        Checks.says("the rook goes to the square that he passed");
        String men = "r3k2r/8/8/8/8/8/8/R3K2R ";
        play(men + "w KQkq - 3 9", "e1g1", "r3k2r/8/8/8/8/8/8/R4RK1 b kq - 4 9");
        play(men + "w KQkq - 3 9", "e1c1", "r3k2r/8/8/8/8/8/8/2KR3R b kq - 4 9");
        play(men + "b KQkq - 3 9", "e8g8", "r4rk1/8/8/8/8/8/8/R3K2R w KQ - 4 10");
        play(men + "b KQkq - 3 9", "e8c8", "2kr3r/8/8/8/8/8/8/R3K2R w KQ - 4 10");
        Checks.says("it goes only with a king who goes two columns");
        play("4k3/8/8/8/8/8/8/R3K2R w KQ - 3 9", "e1f1", "4k3/8/8/8/8/8/8/R4K1R b - - 4 9");
        play("4k3/8/8/8/8/8/8/R3K2R w KQ - 3 9", "e1d1", "4k3/8/8/8/8/8/8/R2K3R b - - 4 9");
        play("1k6/8/8/8/8/8/8/R3Q1KR w - - 3 9", "e1c1", "1k6/8/8/8/8/8/8/R1Q3KR b - - 4 9");
    }

    private static void play(String text, String move, String behind) {
        KingsBoard board = Checks.set(text);
        Checks.due("taken", Checks.play(board, move), 0);
        Checks.due("behind " + move, Checks.written(board), behind);
        board.back();
        Checks.due("taken back", Checks.written(board), text);
    }

    private static void rights(String text, String moves, int due) {
        KingsBoard board = Checks.set(text);
        Checks.play(board, moves);
        Checks.due("RIGHTS behind " + moves + " in " + text, board.about(1), due);
        KingsBoard other = Checks.set(Mirror.text(text));
        Checks.play(other, Mirror.moves(moves));
        Checks.due("RIGHTS behind the mirror of " + moves + " in " + text, other.about(1), due >> 2 | (due & 3) << 2);
    }

    private static final String ALL = "r3k2r/8/8/8/8/8/8/R3K2R w KQkq - 0 1";

    private static void kingMoves() {
        Checks.says("RIGHTS go when the king moves");
        for (String to : new String[] {"d1", "f1", "d2", "e2", "f2", "c1", "g1"}) {
            rights(ALL, "e1" + to, 12);
        }
        rights("4k3/8/8/8/8/8/3p4/R3K2R w KQ - 0 1", "e1d2", 0);
        rights(ALL, "e1e2 e8e7 e2e1 e7e8", 0);
        rights(ALL, "e1e2 a8b8 e2e1 b8a8", 4);
    }

    private static void rookMoves() {
        Checks.says("RIGHTS go when the rook of that corner moves");
        rights(ALL, "a1b1", 13);
        rights(ALL, "a1a2", 13);
        rights(ALL, "h1g1", 14);
        rights(ALL, "h1h7", 14);
        rights(ALL, "a1b1 a8b8 b1a1 b8a8", 5);
        rights(ALL, "h1g1 h8g8 g1h1 g8h8", 10);
        rights("r3k2r/8/8/8/8/8/8/R3K2R w Qkq - 0 1", "h1g1", 14);
    }

    private static void takenInCorner() {
        Checks.says("RIGHTS go when a man is taken in that corner");
        rights(ALL, "a1a8", 5);
        rights(ALL, "h1h8", 10);
        rights("r3k2r/8/8/8/8/8/8/4K2R w Kkq - 0 1", "h1h8", 8);
        rights("r3k2r/6P1/8/8/8/8/8/R3K2R w KQkq - 0 1", "g7h8=2", 11);
        rights("r3k2r/1P6/8/8/8/8/8/R3K2R w KQkq - 0 1", "b7a8=5", 7);
        rights("r3k2r/8/6N1/8/8/8/8/R3K2R w KQkq - 0 1", "g6h8", 11);
        rights("r3k2r/2N5/8/8/8/8/8/4K3 b kq - 0 1", "e8d7 c7a8", 0);
        rights("r3k2r/8/1N6/8/8/8/8/4K3 w kq - 0 1", "b6a8", 4);
        rights("r3k2r/8/8/8/8/2B5/8/4K3 w kq - 0 1", "c3h8", 8);
        rights("r3k2r/8/8/8/8/5Q2/8/4K3 w kq - 0 1", "f3a8", 4);
    }

    private static void rightsStay() {
        Checks.says("RIGHTS go with these moves alone");
        rights(Checks.BEGINNING, "e2e4 e7e5 g1f3 b8c6 f1c4 d7d6 d1e2 c8g4", 15);
        rights("r3k2r/8/8/3R4/8/8/8/R3K2R w KQkq - 0 1", "d5d1 e8f7 d1d2 f7e8", 3);
        rights("r3k2r/8/8/8/8/8/P6p/R3K2R w KQkq - 0 1", "a2a4", 15);
        rights("r2qk2r/8/8/8/8/8/8/R2QK2R w KQkq - 0 1", "d1d8", 15);
        Checks.says("RIGHTS come again when the move is taken back, and only then");
        KingsBoard board = Checks.set(ALL);
        Checks.play(board, "e1e2 a8b8");
        Checks.due("gone", board.about(1), 4);
        board.back();
        Checks.due("one back", board.about(1), 12);
        board.back();
        Checks.due("two back", board.about(1), 15);
        Checks.play(board, "e1g1");
        Checks.due("castled", board.about(1), 12);
    }
}
