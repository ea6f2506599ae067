/** Promise 10: attacked. */
public final class AttackTest {
    public static void main(String[] args) {
        eachKind();
        upToTheFirstMan();
        ownMenToo();
        noPassedNoCastling();
        wrongInputs();
        Checks.finish();
    }

    /** The squares that a side attacks, by name. */
    private static String squares(KingsBoard board, int side) {
        StringBuilder text = new StringBuilder();
        for (int square = 0; square < 64; square++) {
            if (board.attacked(square, side)) {
                text.append(text.length() == 0 ? "" : " ").append(Checks.name(square));
            }
        }
        return text.toString();
    }

    private static void eachKind() {
        Checks.due("king", squares(Checks.set("7k/8/8/8/8/8/8/K7 w - - 0 1"), 0), "b1 a2 b2");
        Checks.due("black king", squares(Checks.set("7k/8/8/8/8/8/8/K7 w - - 0 1"), 1), "g7 h7 g8");
        Checks.due("knight", squares(Checks.set("7k/8/8/8/3N4/8/8/K7 b - - 0 1"), 0),
                "b1 a2 b2 c2 e2 b3 f3 b5 f5 c6 e6");
        Checks.due("pawns", squares(Checks.set("7k/8/8/8/P2P3P/8/8/K7 w - - 0 1"), 0),
                "b1 a2 b2 b5 c5 e5 g5");
        Checks.due("black pawns", squares(Checks.set("7k/8/8/8/p2p3p/8/8/K7 w - - 0 1"), 1),
                "b3 c3 e3 g3 g7 h7 g8");
        Checks.due("rook", squares(Checks.set("7k/8/8/8/3R4/8/8/K7 b - - 0 1"), 0),
                "b1 d1 a2 b2 d2 d3 a4 b4 c4 e4 f4 g4 h4 d5 d6 d7 d8");
        Checks.due("bishop", squares(Checks.set("6k1/8/8/8/3B4/8/8/K7 b - - 0 1"), 0),
                "a1 b1 g1 a2 b2 f2 c3 e3 c5 e5 b6 f6 a7 g7 h8");
    }

    private static void upToTheFirstMan() {
        KingsBoard board = Checks.set("7k/8/8/8/1p1Q1P2/8/8/K7 b - - 0 1");
        Checks.due("the first man's square", board.attacked(Checks.at("b4"), 0), true);
        Checks.due("behind him", board.attacked(Checks.at("a4"), 0), false);
        Checks.due("an own man's square", board.attacked(Checks.at("f4"), 0), true);
        Checks.due("behind that one", board.attacked(Checks.at("g4"), 0), false);
        Checks.due("on the slant", board.attacked(Checks.at("h8"), 0), true);
        Checks.due("no square of its own", board.attacked(Checks.at("d4"), 0), false);
    }

    private static void ownMenToo() {
        KingsBoard board = new KingsBoard();
        Checks.due("white in the beginning", squares(board, 0),
                "b1 c1 d1 e1 f1 g1 a2 b2 c2 d2 e2 f2 g2 h2 a3 b3 c3 d3 e3 f3 g3 h3");
        Checks.due("black in the beginning", squares(board, 1),
                "a6 b6 c6 d6 e6 f6 g6 h6 a7 b7 c7 d7 e7 f7 g7 h7 b8 c8 d8 e8 f8 g8");
        KingsBoard pinned = Checks.set("4r2k/8/8/8/8/8/4R3/4K3 w - - 0 1");
        Checks.due("a man that may not move reaches too", pinned.attacked(Checks.at("a2"), 0), true);
    }

    private static void noPassedNoCastling() {
        KingsBoard board = Checks.set("4k3/8/8/3pP3/8/8/8/4K2R w K d6 0 1");
        Checks.due("the pawn that may be taken so", board.attacked(Checks.at("d5"), 0), false);
        Checks.due("the square up", board.attacked(Checks.at("e6"), 0), false);
        Checks.due("the slant", board.attacked(Checks.at("f6"), 0), true);
        KingsBoard kings = Checks.set("4k3/8/8/8/8/8/8/4K2r w - - 0 1");
        Checks.due("two columns away", kings.attacked(Checks.at("g1"), 0), false);
    }

    private static void wrongInputs() {
        KingsBoard board = new KingsBoard();
        for (int square : new int[] {-1, 64, Integer.MIN_VALUE, Integer.MAX_VALUE}) {
            Checks.dueThrow("square " + square, IndexOutOfBoundsException.class, () -> board.attacked(square, 0));
            Checks.dueThrow("the first exception", IndexOutOfBoundsException.class, () -> board.attacked(square, 2));
        }
        for (int side : new int[] {-1, 2, Integer.MIN_VALUE, Integer.MAX_VALUE}) {
            Checks.dueThrow("side " + side, IllegalArgumentException.class, () -> board.attacked(0, side));
        }
    }
}
