/** THE WORTH, and promise 16: worth. */
public final class WorthTest {
    public static void main(String[] args) {
        pawns();
        knights();
        bishops();
        rooks();
        queens();
        kings();
        everySquare();
        sums();
        statesDoNotCount();
        Checks.finish();
    }

    /** A man alone beside kings whose worths are taken off, and the same for BLACK. */
    private static void worth(String letter, String square, int due) {
        int kind = " PNBRQK".indexOf(letter);
        Checks.due(letter + " on " + square, alone(kind, Checks.at(square), true), due);
        Checks.due("BLACK's " + letter + " on " + square, alone(kind, Checks.at(square), false), due);
    }

    /** Kings in two corners are worth 0; the man stands beside them where he gives no check. */
    private static int alone(int kind, int square, boolean isWhite) {
        int[] corners = {0, 63, 0, 56, 7, 63, 7, 56, 56, 7, 63, 0, 63, 7, 56, 0};
        for (int k = 0; k < corners.length; k += 2) {
            PlainBoard plain = new PlainBoard();
            plain.mover = isWhite ? 0 : 1;
            plain.men[corners[k]] = 6;
            plain.men[corners[k + 1]] = -6;
            int place = isWhite ? square : square ^ 56;
            if (plain.men[place] != 0) {
                continue;
            }
            plain.men[place] = isWhite ? kind : -kind;
            if (!plain.inCheck(1 - plain.mover)) {
                KingsBoard board = Checks.set(plain.written());
                return board.worth();
            }
        }
        Checks.due("there are corners for the kings beside " + kind + " on " + square, 0, 1);
        return 0;
    }

    private static void pawns() {
        Checks.says("a pawn is worth 100 + 4 * r + 2 * e");
        worth("P", "a2", 104);
        worth("P", "a3", 108);
        worth("P", "a7", 124);
        worth("P", "b2", 106);
        worth("P", "c2", 108);
        worth("P", "d2", 110);
        worth("P", "e2", 110);
        worth("P", "f2", 108);
        worth("P", "h2", 104);
        worth("P", "e7", 130);
    }

    private static void knights() {
        Checks.says("a knight 320 + 6 * m");
        worth("N", "b1", 326);
        worth("N", "a4", 338);
        worth("N", "a5", 338);
        worth("N", "d4", 356);
        worth("N", "e5", 356);
        worth("N", "d1", 338);
        worth("N", "e8", 338);
        worth("N", "f7", 338);
    }

    private static void bishops() {
        Checks.says("a bishop 330 + 4 * m");
        worth("B", "b8", 334);
        worth("B", "c3", 346);
        worth("B", "d4", 354);
        worth("B", "e5", 354);
        worth("B", "h2", 334);
    }

    private static void rooks() {
        Checks.says("a rook 500, and 20 more with r 6");
        worth("R", "d6", 500);
        worth("R", "d7", 520);
        worth("R", "d8", 500);
        worth("R", "b7", 520);
        worth("R", "h7", 520);
        worth("R", "d2", 500);
        worth("R", "b1", 500);
    }

    private static void queens() {
        Checks.says("a queen 900 + 2 * m");
        worth("Q", "g1", 902);
        worth("Q", "g5", 908);
        worth("Q", "d4", 912);
        worth("Q", "e8", 906);
    }

    private static void kings() {
        Checks.says("a king -3 * m");
        Checks.due("king on a1", Checks.set("7k/8/8/8/8/8/8/K7 w - - 0 1").worth(), 0);
        Checks.due("king on d4", Checks.set("k7/8/8/8/3K4/8/8/8 w - - 0 1").worth(), -18);
        Checks.due("king on e1", Checks.set("k7/8/8/8/8/8/8/4K3 w - - 0 1").worth(), -9);
        Checks.due("the other one's", Checks.set("4k3/8/8/8/8/8/8/K7 w - - 0 1").worth(), 9);
        Checks.due("the other one's, in the middle", Checks.set("8/8/8/4k3/8/8/8/K7 w - - 0 1").worth(), 18);
        Checks.due("BLACK's own", Checks.set("8/8/8/4k3/8/8/8/K7 b - - 0 1").worth(), -18);
    }

    private static void everySquare() {
        Checks.says("with r the rank of a man's square for its side, e the less of its column and 7 less that, "
                + "and m = e + the less of r and 7 - r");
        for (int kind = 1; kind <= 5; kind++) {
            for (int square = 0; square < 64; square++) {
                int r = square / 8;
                int c = square % 8;
                boolean isCorner = (r == 0 || r == 7) && (c == 0 || c == 7);
                if (kind == 1 && (r == 0 || r == 7) || kind == 5 && isCorner) {
                    continue;
                }
                int e = c < 7 - c ? c : 7 - c;
                int m = e + (r < 7 - r ? r : 7 - r);
                int[] due = {0, 100 + 4 * r + 2 * e, 320 + 6 * m, 330 + 4 * m, r == 6 ? 520 : 500, 900 + 2 * m};
                String name = Checks.name(square);
                Checks.due(kind + " on " + name, alone(kind, square, true), due[kind]);
                Checks.due("BLACK's " + kind + " on " + name, alone(kind, square, false), due[kind]);
            }
        }
        for (int square = 0; square < 48; square++) {
            PlainBoard plain = new PlainBoard();
            plain.men[square] = 6;
            plain.men[square % 8 < 4 ? 63 : 56] = -6;
            int c = square % 8;
            int r = square / 8;
            int m = (c < 7 - c ? c : 7 - c) + (r < 7 - r ? r : 7 - r);
            Checks.due("king on " + Checks.name(square), Checks.set(plain.written()).worth(), -3 * m);
            Checks.due("BLACK's", Checks.set(Mirror.text(plain.written())).worth(), -3 * m);
        }
    }

    private static void sums() {
        Checks.says("for the side to move: the sum over its men less that over the other one's");
        Checks.due("the beginning", new KingsBoard().worth(), 0);
        String men = "4k3/pp6/2n5/8/8/3B4/PPP5/4K3 ";
        int white = 104 + 106 + 108 + 330 + 4 * 5 - 9 - (104 + 106 + 320 + 6 * 4 - 9);
        Checks.due("WHITE to move", Checks.set(men + "w - - 0 1").worth(), white);
        Checks.due("BLACK to move", Checks.set(men + "b - - 0 1").worth(), -white);
        Checks.says("the sum over its men: each of several of a kind");
        Checks.due("knights", Checks.set("7k/8/8/8/3N4/8/1N6/N6K w - - 0 1").worth(), 320 + 332 + 356);
        Checks.due("bishops", Checks.set("6k1/8/8/8/4B3/8/1B6/B6K w - - 0 1").worth(), 330 + 338 + 354 + 3);
        Checks.due("rooks", Checks.set("7k/R7/8/8/8/8/8/R6K b - - 0 1").worth(), -1020);
        Checks.due("queens", Checks.set("6k1/8/8/1Q6/8/8/8/Q6K b - - 0 1").worth(), -3 - 900 - 908);
        Checks.due("all of a rank", Checks.set("k7/8/8/8/PPPPPPPP/8/8/K7 w - - 0 1").worth(), 8 * 112 + 2 * 12);
        Checks.says("for the side to move, behind a move and taken back");
        KingsBoard board = new KingsBoard();
        Checks.play(board, "e2e4");
        Checks.due("behind a move", board.worth(), -8);
        board.back();
        Checks.due("taken back", board.worth(), 0);
    }

    private static void statesDoNotCount() {
        Checks.says("THE WORTH of a position, whatever its STATE is");
        Checks.due("mate", Checks.set("R5k1/5ppp/8/8/8/8/8/6K1 b - - 0 1").worth(), 108 + 106 + 104 - 3 - (500 - 3));
        Checks.due("stale", Checks.set("7k/5Q2/6K1/8/8/8/8/8 b - - 0 1").worth(), -(906 - 9));
        Checks.due("fifty", Checks.set("k7/8/8/8/8/8/4P3/K7 w - - 100 1").worth(), 110);
        Checks.due("bare", Checks.set("k7/8/8/8/8/8/4N3/K7 w - - 0 1").worth(), 320 + 24);
    }
}
