/** WHERE MEN REACH, and promise 10: attacked. */
public final class AttackTest {
    private static final String[] STEPS = {"0 1", "0 -1", "1 0", "-1 0", "1 1", "-1 -1", "1 -1", "-1 1"};

    public static void main(String[] args) {
        knights();
        kings();
        pawns();
        lines();
        upToTheFirstMan();
        everySquare();
        bySide();
        onlyWhereMenReach();
        check();
        wrongInputs();
        Checks.finish();
    }

    /** The squares that a side attacks, by name, without those of a king in the corner. */
    private static String squares(KingsBoard board, int side) {
        StringBuilder text = new StringBuilder();
        for (int square = 0; square < 64; square++) {
            if (board.attacked(square, side)) {
                text.append(text.length() == 0 ? "" : " ").append(Checks.name(square));
            }
        }
        return text.toString();
    }

    private static void reach(String text, int side, String due) {
        Checks.due("squares attacked in " + text, squares(Checks.set(text), side), due);
    }

    private static void knights() {
        Checks.says("a knight two squares along a row or column and one across");
        reach("7k/8/8/8/3N4/8/8/K7 b - - 0 1", 0, "b1 a2 b2 c2 e2 b3 f3 b5 f5 c6 e6");
        Checks.says("a knight at the edge: not round it");
        reach("7k/8/8/8/8/8/8/N3K3 w - - 0 1", 0, "d1 f1 c2 d2 e2 f2 b3");
        reach("7k/8/8/8/8/8/8/K6N w - - 0 1", 0, "b1 a2 b2 f2 g3");
        reach("N6k/8/8/8/8/8/8/K7 w - - 0 1", 0, "b1 a2 b2 b6 c7");
        reach("k6N/8/8/8/8/8/8/K7 w - - 0 1", 0, "b1 a2 b2 g6 f7");
        reach("7k/8/8/8/N7/8/8/K7 w - - 0 1", 0, "b1 a2 b2 c3 c5 b6");
        reach("7k/8/8/8/7N/8/8/K7 w - - 0 1", 0, "b1 a2 b2 g2 f3 f5 g6");
        reach("7k/8/8/8/6N1/8/8/K7 w - - 0 1", 0, "b1 a2 b2 f2 h2 e3 e5 f6 h6");
        reach("7k/8/8/8/8/8/1N6/7K w - - 0 1", 0, "d1 g1 g2 h2 d3 a4 c4");
    }

    private static void kings() {
        Checks.says("a king each square beside his");
        reach("7k/8/8/8/3K4/8/8/8 w - - 0 1", 0, "c3 d3 e3 c4 e4 c5 d5 e5");
        reach("7k/8/8/8/8/8/8/K7 w - - 0 1", 0, "b1 a2 b2");
        reach("7k/8/8/8/8/8/8/K7 w - - 0 1", 1, "g7 h7 g8");
        reach("k7/8/8/8/8/8/8/7K w - - 0 1", 0, "g1 g2 h2");
        reach("k7/8/8/8/8/8/8/7K w - - 0 1", 1, "a7 b7 b8");
        reach("7k/8/8/8/K7/8/8/8 w - - 0 1", 0, "a3 b3 b4 a5 b5");
        reach("k7/8/8/8/7K/8/8/8 w - - 0 1", 0, "g3 h3 g4 g5 h5");
    }

    private static void pawns() {
        Checks.says("a pawn the two squares up beside his column");
        reach("7k/8/8/8/P2P3P/8/8/K7 w - - 0 1", 0, "b1 a2 b2 b5 c5 e5 g5");
        reach("7k/8/8/8/p2p3p/8/8/K7 w - - 0 1", 1, "b3 c3 e3 g3 g7 h7 g8");
        reach("7k/P6P/8/8/8/8/8/K7 b - - 0 1", 0, "b1 a2 b2 b8 g8");
        reach("k7/8/8/8/8/8/p6p/7K w - - 0 1", 1, "b1 g1 a7 b7 b8");
        reach("7k/8/8/8/8/8/P6P/4K3 w - - 0 1", 0, "d1 f1 d2 e2 f2 b3 g3");
    }

    private static void lines() {
        Checks.says("a rook along row and column");
        reach("7k/8/8/8/3R4/8/8/K7 b - - 0 1", 0, "b1 d1 a2 b2 d2 d3 a4 b4 c4 e4 f4 g4 h4 d5 d6 d7 d8");
        Checks.says("a bishop along both slants");
        reach("6k1/8/8/8/3B4/8/8/K7 b - - 0 1", 0, "a1 b1 g1 a2 b2 f2 c3 e3 c5 e5 b6 f6 a7 g7 h8");
        reach("6k1/8/8/7B/8/8/8/K7 b - - 0 1", 0, "b1 d1 a2 b2 e2 f3 g4 g6 f7 e8");
        Checks.says("a queen along all four");
        reach("6k1/8/8/8/3Q4/8/8/K7 b - - 0 1", 0,
                "a1 b1 d1 g1 a2 b2 d2 f2 c3 d3 e3 a4 b4 c4 e4 f4 g4 h4 c5 d5 e5 b6 d6 f6 a7 d7 g7 d8 h8");
    }

    private static void upToTheFirstMan() {
        Checks.says("up to the first man, his square with them");
        for (String step : STEPS) {
            int rows = Integer.parseInt(step.split(" ")[0]);
            int columns = Integer.parseInt(step.split(" ")[1]);
            for (int far = 1; far <= 3; far++) {
                for (int man : new int[] {2, -2}) {
                    blocked(rows, columns, far, man);
                }
            }
        }
    }

    private static void blocked(int rows, int columns, int far, int man) {
        int kind = rows == 0 || columns == 0 ? 4 : 3;
        for (int hunter : new int[] {kind, 5}) {
            PlainBoard plain = new PlainBoard();
            plain.men[27] = hunter;
            plain.men[27 + far * (8 * rows + columns)] = man;
            putKings(plain, 8 * rows + columns < 0);
            KingsBoard board = Checks.set(plain.written());
            for (int k = 1; k <= 3; k++) {
                int square = 27 + k * (8 * rows + columns);
                // A knight, the man in the way, reaches none of these squares.
                Checks.due(Checks.name(square) + " in " + plain.written(), board.attacked(square, 0), k <= far);
            }
        }
    }

    /** Puts the kings where neither is in check, WHITE's in a high or low row if he can stand there. */
    private static void putKings(PlainBoard plain, boolean isHigh) {
        int[] edge = {0, 7, 1, 6, 8, 15, 2, 5, 16, 23, 40, 47, 58, 61, 48, 55, 57, 62, 56, 63};
        for (int k = 0; k < edge.length; k++) {
            int white = edge[isHigh ? edge.length - 1 - k : k];
            for (int black : edge) {
                if (white == black || plain.men[white] != 0 || plain.men[black] != 0) {
                    continue;
                }
                plain.men[white] = 6;
                plain.men[black] = -6;
                if (!plain.inCheck(0) && !plain.inCheck(1)) {
                    return;
                }
                plain.men[white] = 0;
                plain.men[black] = 0;
            }
        }
        Checks.due("there is a place for the kings", 0, 1);
    }

    private static void everySquare() {
        Checks.says("WHERE MEN REACH: each kind of both sides on every square");
        for (int kind = 1; kind <= 5; kind++) {
            for (int square = kind == 1 ? 8 : 0; square < (kind == 1 ? 56 : 64); square++) {
                for (int sign = -1; sign <= 1; sign += 2) {
                    PlainBoard plain = new PlainBoard();
                    plain.men[square] = sign * kind;
                    putKings(plain, false);
                    KingsBoard board = Checks.set(plain.written());
                    for (int target = 0; target < 64; target++) {
                        int side = sign > 0 ? 0 : 1;
                        Checks.due(Checks.name(target) + " in " + plain.written(), board.attacked(target, side),
                                plain.attacked(target, side));
                    }
                }
            }
        }
    }

    private static void bySide() {
        Checks.says("a square is ATTACKED by a side if one of its men reaches it: own men's squares too");
        KingsBoard board = new KingsBoard();
        Checks.due("white in the beginning", squares(board, 0),
                "b1 c1 d1 e1 f1 g1 a2 b2 c2 d2 e2 f2 g2 h2 a3 b3 c3 d3 e3 f3 g3 h3");
        Checks.due("black in the beginning", squares(board, 1),
                "a6 b6 c6 d6 e6 f6 g6 h6 a7 b7 c7 d7 e7 f7 g7 h7 b8 c8 d8 e8 f8 g8");
        Checks.says("a man that may not move reaches too, whoever is to move");
        KingsBoard pinned = Checks.set("4r2k/8/8/8/8/8/4R3/4K3 w - - 0 1");
        Checks.due("a2 by white", pinned.attacked(Checks.at("a2"), 0), true);
        Checks.due("a8 by black", pinned.attacked(Checks.at("a8"), 1), true);
        Checks.due("a2 by black", pinned.attacked(Checks.at("a2"), 1), false);
        Checks.due("e2 by black", pinned.attacked(Checks.at("e2"), 1), true);
    }

    private static void onlyWhereMenReach() {
        Checks.says("reaching is not going: no PASSED pawn, no step up, no king by two columns");
        KingsBoard board = Checks.set("4k3/8/8/3pP3/8/8/8/4K2R w K d6 0 1");
        Checks.due("the pawn that may be taken so", board.attacked(Checks.at("d5"), 0), false);
        Checks.due("the square up", board.attacked(Checks.at("e6"), 0), false);
        Checks.due("the slant, though nothing is to be taken", board.attacked(Checks.at("f6"), 0), true);
        KingsBoard kings = Checks.set("4k3/8/8/8/8/8/8/R3K3 w Q - 0 1");
        Checks.due("two columns away", kings.attacked(Checks.at("g1"), 0), false);
        Checks.due("beyond the king", kings.attacked(Checks.at("f1"), 0), true);
        Checks.due("his own square, by his rook", kings.attacked(Checks.at("e1"), 0), true);
        Checks.due("no man reaches his own square", kings.attacked(Checks.at("a1"), 0), false);
    }

    private static void check(String text, int due) {
        Checks.due("check in " + text, Checks.set(text).about(5), due);
        Checks.due("check in the mirror of " + text, Checks.set(Mirror.text(text)).about(5), due);
    }

    private static void check() {
        Checks.says("a side is in CHECK if its king is attacked by the other one");
        check("4r2k/8/8/8/8/8/8/4K3 w - - 0 1", 1);
        check("4r2k/8/8/8/4p3/8/8/4K3 w - - 0 1", 0);
        check("3r3k/8/8/8/8/8/8/4K3 w - - 0 1", 0);
        check("7k/8/8/8/1b6/8/8/4K3 w - - 0 1", 1);
        check("7k/8/8/8/b7/8/8/4K3 w - - 0 1", 0);
        check("7k/8/8/8/8/3n4/8/4K3 w - - 0 1", 1);
        check("7k/8/8/8/8/4n3/8/4K3 w - - 0 1", 0);
        check("7k/8/8/8/8/8/3p4/4K3 w - - 0 1", 1);
        check("7k/8/8/8/8/8/4p3/4K3 w - - 0 1", 0);
        check("7k/8/8/8/4K3/3p4/8/8 w - - 0 1", 0);
        check("7k/8/8/8/8/8/8/q3K3 w - - 0 1", 1);
        check("7k/8/8/8/8/8/8/qN2K3 w - - 0 1", 0);
        check("4k3/8/8/8/8/8/8/4K2R w K - 0 1", 0);
        check("4K3/8/4k3/8/8/8/8/8 w - - 0 1", 0);
    }

    private static void wrongInputs() {
        Checks.says("attacked: IndexOutOfBoundsException; IllegalArgumentException: there is no such side");
        KingsBoard board = new KingsBoard();
        for (int square : new int[] {-1, 64, Integer.MIN_VALUE, Integer.MAX_VALUE}) {
            Checks.dueThrow("square " + square, IndexOutOfBoundsException.class, () -> board.attacked(square, 0));
            Checks.dueThrow("the first exception", IndexOutOfBoundsException.class, () -> board.attacked(square, 2));
        }
        for (int side : new int[] {-1, 2, Integer.MIN_VALUE, Integer.MAX_VALUE}) {
            Checks.dueThrow("side " + side, IllegalArgumentException.class, () -> board.attacked(0, side));
        }
    }
}
