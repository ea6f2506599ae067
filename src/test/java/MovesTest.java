/** MOVE and LEGAL, and promises 11 and 12: moves and move. */
public final class MovesTest {
    public static void main(String[] args) {
        ownMen();
        whereTheyReach();
        pawnByOne();
        pawnByTwo();
        pawnTakes();
        pawnBecomes();
        pinned();
        inCheck();
        kingsWay();
        order();
        counts();
        parts();
        wrongInputs();
        Checks.finish();
    }

    private static void moves(String text, String due) {
        Checks.due("moves of " + text, Checks.moves(Checks.set(text)), due);
    }

    private static void legal(String text, String... moves) {
        for (String move : moves) {
            Checks.legal(text, move, true);
        }
    }

    private static void illegal(String text, String... moves) {
        for (String move : moves) {
            Checks.legal(text, move, false);
        }
    }

    private static void ownMen() {
        Checks.says("a MOVE takes a man of the side to move");
        illegal(Checks.BEGINNING, "e7e5", "g8f6", "e4e5");
        Checks.says("to another square, which has no man of that side");
        illegal("7k/8/8/8/8/8/PN6/RQK5 w - - 0 1", "a1a2", "a1b1", "b1b2", "b1a2", "b2a2", "c1b1", "c1b2", "a1a1", "c1c1");
        Checks.says("a man of the other side there is TAKEN");
        legal("7k/8/8/8/8/8/pn6/RQ2K3 w - - 0 1", "a1a2", "b1b2", "b1a2");
        illegal("7k/8/8/p7/r7/8/8/R1K5 w - - 0 1", "a1a5", "a1a6");
    }

    private static void whereTheyReach() {
        Checks.says("knights, bishops, rooks, queens and kings go where they reach");
        moves("7k/8/8/8/8/8/8/N6K w - - 0 1", "a1c2 a1b3 h1g1 h1g2 h1h2");
        moves("7k/8/8/8/8/2p5/8/B6K w - - 0 1", "a1b2 a1c3 h1g1 h1g2 h1h2");
        moves("7k/8/8/8/8/P7/8/R1K5 w - - 0 1", "a1b1 a1a2 c1b1 c1d1 c1b2 c1c2 c1d2 a3a4");
        moves("7k/8/8/8/8/p1p5/8/Q1K5 w - - 0 1", "a1b1 a1a2 a1b2 a1a3 a1c3 c1b1 c1d1 c1c2");
        moves("7k/8/8/8/8/8/8/K7 w - - 0 1", "a1b1 a1a2 a1b2");
    }

    private static void pawnByOne() {
        Checks.says("a pawn goes up by one if that square is free");
        legal("7k/8/8/8/8/3P4/8/K7 w - - 0 1", "d3d4");
        illegal("7k/8/8/8/8/3P4/8/K7 w - - 0 1", "d3d2", "d3d5", "d3c3", "d3e3", "d3c4", "d3e4");
        illegal("7k/8/8/8/3p4/3P4/8/K7 w - - 0 1", "d3d4");
        illegal("7k/8/8/8/3P4/3P4/8/K7 w - - 0 1", "d3d4");
    }

    private static void pawnByTwo() {
        Checks.says("from rank 1 by two if both are");
        legal("7k/8/8/8/8/8/P2P3P/K7 w - - 0 1", "a2a4", "d2d4", "h2h4", "d2d3");
        illegal("7k/8/8/8/8/8/3P4/K7 w - - 0 1", "d2d5");
        legal("7k/8/8/8/3n4/8/3P4/K7 w - - 0 1", "d2d3");
        illegal("7k/8/8/8/3n4/8/3P4/K7 w - - 0 1", "d2d4");
        illegal("7k/8/8/8/8/3n4/3P4/K7 w - - 0 1", "d2d3", "d2d4");
        illegal("7k/8/8/8/8/3N4/3P4/K7 w - - 0 1", "d2d3", "d2d4");
        illegal("7k/8/8/8/8/P7/8/K7 w - - 0 1", "a3a5");
        illegal("7k/8/3P4/8/8/8/8/K7 w - - 0 1", "d6d8", "d6d8=5");
    }

    private static void pawnTakes() {
        Checks.says("to a square that it reaches if it takes a man there");
        legal("7k/8/8/2p1n3/3P4/8/8/K7 w - - 0 1", "d4c5", "d4e5", "d4d5");
        illegal("7k/8/8/2P1N3/3P4/8/8/K7 w - - 0 1", "d4c5", "d4e5");
        illegal("7k/8/8/8/2p1n3/3P4/8/K7 w - - 0 1", "d3c3", "d3e3", "d3c2", "d3e2");
        Checks.says("not round the edge");
        illegal("7k/8/8/p6p/P6P/p6p/8/4K3 w - - 0 1", "a4h5", "h4a5", "a4h4", "h4a4", "a4h3", "h4a3");
        legal("7k/8/8/1p4p1/P6P/8/8/4K3 w - - 0 1", "a4b5", "h4g5");
    }

    private static void pawnBecomes() {
        Checks.says("a pawn that comes to rank 7 becomes a knight, bishop, rook or queen");
        String text = "1n1n3k/2P5/8/8/8/8/8/K7 w - - 0 1";
        for (String to : new String[] {"b8", "c8", "d8"}) {
            legal(text, "c7" + to + "=2", "c7" + to + "=3", "c7" + to + "=4", "c7" + to + "=5");
            illegal(text, "c7" + to, "c7" + to + "=1", "c7" + to + "=6");
        }
        Checks.says("a pawn that does not come there, and any other man, becomes none");
        String before = "7k/8/2P5/8/8/8/8/KR6 w - - 0 1";
        legal(before, "c6c7", "b1b8");
        illegal(before, "c6c7=2", "c6c7=5", "b1b8=5", "b1b7=2", "a1a2=5");
        moves("7k/P7/8/8/8/8/8/K7 w - - 0 1", "a1b1 a1a2 a1b2 a7a8=2 a7a8=3 a7a8=4 a7a8=5");
    }

    private static void pinned() {
        Checks.says("a move is LEGAL if its side is not in check behind it: a man before his king");
        moves("4r2k/8/8/8/8/4R3/8/4K3 w - - 0 1",
                "e1d1 e1f1 e1d2 e1e2 e1f2 e3e2 e3e4 e3e5 e3e6 e3e7 e3e8");
        legal("7k/8/8/8/7b/6B1/8/4K3 w - - 0 1", "g3h4", "g3f2");
        illegal("7k/8/8/8/7b/6B1/8/4K3 w - - 0 1", "g3h2", "g3f4", "g3e5");
        illegal("4r2k/8/8/8/8/4N3/8/4K3 w - - 0 1", "e3d5", "e3f1");
        legal("4r2k/8/8/8/8/8/4P3/4K3 w - - 0 1", "e2e3", "e2e4");
        illegal("4r2k/8/8/8/8/3p4/4P3/4K3 w - - 0 1", "e2d3");
        illegal("7k/8/8/8/7b/6P1/8/4K3 w - - 0 1", "g3g4");
        legal("7k/8/8/8/7b/6P1/8/4K3 w - - 0 1", "g3h4");
        illegal("7k/8/8/8/q2P3K/8/8/8 w - - 0 1", "d4d5");
        illegal("7k/2p5/8/8/q2R3K/8/8/8 w - - 0 1", "d4d5");
        legal("7k/2p5/8/8/q1PR3K/8/8/8 w - - 0 1", "d4d5", "c4c5");
        legal("7k/8/8/8/b2R3K/8/8/8 w - - 0 1", "d4d5");
        legal("7k/8/8/8/8/r7/1R6/2K5 w - - 0 1", "b2a2");
        Checks.says("two men before him are not pinned");
        legal("4r2k/8/8/8/4N3/4N3/8/4K3 w - - 0 1", "e3d5", "e4d6");
        legal("4r2k/8/8/8/4n3/4N3/8/4K3 w - - 0 1", "e3d5");
    }

    private static void inCheck() {
        Checks.says("LEGAL in check: take the man, step between, or go away");
        moves("4r2k/8/8/8/8/8/3R4/3QKB2 w - - 0 1", "d1e2 e1f2 f1e2 d2e2");
        moves("7k/8/8/8/8/8/3q4/4K3 w - - 0 1", "e1f1 e1d2");
        moves("3r3k/8/8/8/8/8/3q4/4K3 w - - 0 1", "e1f1");
        moves("7k/8/8/8/8/3n4/2P5/4K3 w - - 0 1", "e1d1 e1f1 e1d2 e1e2 c2d3");
        moves("7k/8/8/8/7b/8/6P1/4K3 w - - 0 1", "e1d1 e1f1 e1d2 e1e2 g2g3");
        moves("7k/8/8/7b/8/8/6P1/3K4 w - - 0 1", "d1c1 d1e1 d1c2 d1d2 g2g4");
        legal("7k/8/8/8/8/3n4/8/4KB2 w - - 0 1", "f1d3");
        illegal("7k/8/8/8/8/3n4/8/4KB2 w - - 0 1", "f1e2");
        Checks.says("LEGAL in check by two: only the king goes");
        moves("4r3/1k6/8/8/1b6/8/8/R3K2R w KQ - 0 1", "e1d1 e1f1 e1f2");
        moves("1k2r3/8/8/8/8/3n4/2P5/4K2R w K - 0 1", "e1d1 e1f1 e1d2");
        for (String rook : new String[] {"R3K3", "1R2K3", "2R1K3", "4K2R", "4K1R1"}) {
            String text = "4r3/3k4/8/8/8/3n4/8/" + rook + " w - - 0 1";
            for (String move : Checks.moves(Checks.set(text)).split(" ")) {
                Checks.due(move + " in " + text, move.startsWith("e1"), true);
            }
        }
    }

    private static void kingsWay() {
        Checks.says("LEGAL: the king does not go where he is attacked, nor along the line of a check");
        moves("7k/8/8/8/8/8/8/K6r w - - 0 1", "a1a2 a1b2");
        illegal("7k/8/8/8/4r3/4K3/8/8 w - - 0 1", "e3e2", "e3d4", "e3f4");
        legal("7k/8/8/8/4r3/4K3/8/8 w - - 0 1", "e3e4", "e3d2", "e3f2", "e3d3", "e3f3");
        illegal("7k/8/8/1b6/8/3K4/8/8 w - - 0 1", "d3e2", "d3c4");
        legal("7k/8/8/1b6/8/3K4/8/8 w - - 0 1", "d3c3", "d3d2", "d3e4");
        illegal("8/8/3k4/8/3K4/8/8/8 w - - 0 1", "d4c5", "d4d5", "d4e5");
        illegal("7k/8/5p2/8/4K3/8/8/8 w - - 0 1", "e4e5");
        illegal("7k/8/8/4n3/3K4/2n5/8/8 w - - 0 1", "d4c4", "d4e4", "d4d3", "d4d5");
        legal("7k/8/8/4n3/3K4/2n5/8/8 w - - 0 1", "d4e5", "d4c3");
        illegal("7k/8/8/r3n3/3K4/8/8/8 w - - 0 1", "d4e5", "d4d5", "d4c5");
        Checks.says("LEGAL: a man that is covered is not for the king");
        illegal("7k/8/8/8/8/5p2/4q3/4K3 w - - 0 1", "e1e2");
        legal("7k/8/8/8/8/8/4q3/4K3 w - - 0 1", "e1e2");
    }

    private static void order() {
        Checks.says("numbered 0, 1, .. by the squares from which they go, then by those to which");
        Checks.due("the beginning", Checks.moves(new KingsBoard()),
                "b1a3 b1c3 g1f3 g1h3 a2a3 a2a4 b2b3 b2b4 c2c3 c2c4 "
                        + "d2d3 d2d4 e2e3 e2e4 f2f3 f2f4 g2g3 g2g4 h2h3 h2h4");
        moves("7k/p1pp4/1P1P4/8/8/8/8/7K b - - 0 1",
                "a7a5 a7a6 a7b6 c7c5 c7b6 c7c6 c7d6 h8g7 h8h7 h8g8");
        moves("k7/8/8/8/8/p2p1p1p/P2P1P1P/R3K2R w Q - 0 1",
                "a1b1 a1c1 a1d1 e1c1 e1d1 e1f1 h1f1 h1g1");
        moves("4k3/8/8/2PpP3/8/8/8/K7 w - d6 0 1", "a1b1 a1a2 a1b2 c5c6 c5d6 e5d6 e5e6");
        Checks.says("then by the men that pawns become");
        moves("1n5k/P7/8/8/8/8/8/7K w - - 0 1",
                "h1g1 h1g2 h1h2 a7a8=2 a7a8=3 a7a8=4 a7a8=5 a7b8=2 a7b8=3 a7b8=4 a7b8=5");
        moves("7k/8/8/8/8/8/p7/1N5K b - - 0 1",
                "a2a1=2 a2a1=3 a2a1=4 a2a1=5 a2b1=2 a2b1=3 a2b1=4 a2b1=5 h8g7 h8h7 h8g8");
    }

    private static void counts() {
        Checks.says("moves(): how many legal moves there are");
        Checks.due("none in mate", Checks.set("R5k1/5ppp/8/8/8/8/8/6K1 b - - 0 1").moves(), 0);
        Checks.due("none in stale", Checks.set("7k/5Q2/6K1/8/8/8/8/8 b - - 0 1").moves(), 0);
        Checks.due("one", Checks.set("3r3k/8/8/8/8/8/3q4/4K3 w - - 0 1").moves(), 1);
        Checks.due("the beginning", new KingsBoard().moves(), 20);
        KingsBoard most = Checks.set("R6R/3Q4/1Q4Q1/4Q3/2Q4Q/Q4Q2/pp1Q4/kBNN1KB1 w - - 0 1");
        Checks.due("the most", most.moves(), 218);
        Checks.due("the last one's square", most.move(217, 0), Checks.at("h8"));
        Checks.due("pawns become four men each",
                Checks.set("3n1n2/P1P1P1P1/8/8/8/8/7k/K7 w - - 0 1").moves(), 3 + 4 * (1 + 2 + 3 + 2));
    }

    private static void parts() {
        Checks.says("of move i: its square from (0), its square to (1), the man that a pawn becomes (2; 2 .. 5, else 0)");
        KingsBoard board = Checks.set("1n5k/P7/8/8/8/8/8/7K w - - 0 1");
        int[][] due = {{7, 6, 0}, {7, 14, 0}, {7, 15, 0}, {48, 56, 2}, {48, 56, 3}, {48, 56, 4}, {48, 56, 5}, {48, 57, 2}};
        for (int i = 0; i < due.length; i++) {
            for (int what = 0; what < 3; what++) {
                Checks.due("move(" + i + ", " + what + ")", board.move(i, what), due[i][what]);
            }
        }
    }

    private static void wrongInputs() {
        Checks.says("move: IndexOutOfBoundsException; IllegalArgumentException: another what");
        KingsBoard board = new KingsBoard();
        for (int i : new int[] {-1, 20, Integer.MIN_VALUE, Integer.MAX_VALUE}) {
            Checks.dueThrow("move " + i, IndexOutOfBoundsException.class, () -> board.move(i, 0));
            Checks.dueThrow("the first exception", IndexOutOfBoundsException.class, () -> board.move(i, 3));
        }
        for (int what : new int[] {-1, 3, Integer.MIN_VALUE, Integer.MAX_VALUE}) {
            Checks.dueThrow("what " + what, IllegalArgumentException.class, () -> board.move(19, what));
        }
        KingsBoard mate = Checks.set("R5k1/5ppp/8/8/8/8/8/6K1 b - - 0 1");
        Checks.dueThrow("no moves", IndexOutOfBoundsException.class, () -> mate.move(0, 0));
        Checks.play(board, "e2e4 e7e5");
        Checks.due("the last one of another count", board.move(board.moves() - 1, 0), Checks.at("h2"));
        Checks.dueThrow("behind it", IndexOutOfBoundsException.class, () -> board.move(29, 0));
        Checks.due("29 moves", board.moves(), 29);
    }
}
