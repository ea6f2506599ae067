/** THE VALUE, and promises 17 and 18: search and chosen. */
public final class SearchTest {
    private static final String MATE = "rnb1kbnr/pppp1ppp/8/4p3/6Pq/5P2/PPPPP2P/RNBQKBNR w KQkq - 1 3";
    private static final String STALE = "7k/5Q2/6K1/8/8/8/8/8 b - - 0 1";
    private static final String SHUFFLE = "e1d1 e8d8 d1e1 d8e8 e1d1 e8d8 d1e1 d8e8";

    public static void main(String[] args) {
        worthForZero();
        mate();
        mateBehind();
        stale();
        fifty();
        bare();
        mateBeforeFifty();
        notThrice();
        greatest();
        taking();
        first();
        whateverTheState();
        noneWithoutMoves();
        becomes();
        latest();
        wrongInputs();
        Checks.finish();
    }

    private static void search(String text, int depth, int value, String chosen) {
        KingsBoard board = Checks.set(text);
        Checks.due("value at " + depth + " of " + text, board.search(depth), value);
        Checks.due("chosen at " + depth + " of " + text, Checks.chosen(board), chosen);
        Checks.due("the position stays", Checks.written(board), text);
    }

    /** The same for the other side, where no order among equals matters. */
    private static void value(String text, int depth, int value) {
        Checks.due("value at " + depth + " of " + text, Checks.set(text).search(depth), value);
        String mirror = Mirror.text(text);
        Checks.due("value at " + depth + " of " + mirror, Checks.set(mirror).search(depth), value);
    }

    private static void worthForZero() {
        Checks.says("its worth for n = 0, whatever its STATE is");
        KingsBoard board = new KingsBoard();
        Checks.play(board, "f2f3 e7e5 g2g4");
        Checks.due("mate is not seen at depth 0", board.search(1), 14);
        Checks.due("chosen", Checks.chosen(board), "b8c6");
        Checks.due("but at depth 1", board.search(2), 30001);
        Checks.due("chosen", Checks.chosen(board), "d8h4");
        // The queen takes the knight, and no legal move is left.
        search("7k/5n2/6K1/8/8/8/8/5Q2 w - - 0 1", 1, 906 - 9, "f1f7");
        search("k7/8/8/8/8/8/4P3/K7 w - - 99 90", 1, 118, "e2e4");
        value("k7/8/8/8/8/8/8/K6R w - - 99 90", 1, 520);
        search("7k/8/8/8/8/8/1p6/K7 w - - 0 1", 1, -6, "a1b2");
    }

    private static void mate() {
        Checks.says("-30000 - n if it is MATE");
        for (int n = 1; n <= 3; n++) {
            search(MATE, n, -30000 - n, "none");
            search(Mirror.text(MATE), n, -30000 - n, "none");
        }
    }

    private static void mateBehind() {
        Checks.says("-30000 - n: the n of the position behind the moves");
        String before = "6k1/5ppp/8/8/8/8/8/R5K1 w - - 0 1";
        search(before, 2, 30001, "a1a8");
        search(before, 3, 30002, "a1a8");
        search(Mirror.text(before), 2, 30001, "a8a1");
        search("7k/8/5K2/8/8/8/8/6Q1 w - - 0 1", 2, 30001, "g1g7");
        // One legal move, and mate behind the answer.
        search("7k/R7/8/8/8/8/8/1R4K1 b - - 0 1", 3, -30001, "h8g8");
    }

    private static void stale() {
        Checks.says("0 if it is STALE");
        for (int n = 1; n <= 3; n++) {
            search(STALE, n, 0, "none");
            search(Mirror.text(STALE), n, 0, "none");
        }
        // A queen on f8 would leave no legal move, so the rook is better by far.
        search("8/5P1k/5K2/8/8/8/8/8 w - - 0 1", 2, 500 - 12 + 6, "f7f8=4");
    }

    private static void fifty() {
        Checks.says("0 if it is FIFTY: the HALVES are 100, not 99");
        String men = "k7/8/8/8/8/8/4P3/K7 w - - ";
        value(men + "99 90", 1, 118);
        value(men + "100 90", 1, 0);
        value(men + "100 90", 2, 0);
        value(men + "9999 90", 3, 0);
        Checks.says("0 if it is FIFTY: behind a move too");
        String check = "k6q/8/8/8/8/8/P7/K7 w - - ";
        Checks.due("in check", Checks.set(check + "99 90").about(5), 1);
        value(check + "99 90", 2, 0);
        Checks.due("HALVES 99 are too few", Checks.set(check + "98 90").search(2) < -700, true);
        Checks.due("HALVES 98 and two moves are enough", Checks.set(check + "98 90").search(3), 0);
        Checks.due("HALVES 97 are too few", Checks.set(check + "97 90").search(3) < -700, true);
        Checks.says("0 if it is FIFTY: not behind a pawn's move or where a man is taken");
        search("k7/8/8/8/8/8/4P3/K7 w - - 99 90", 2, 118 + 3, "e2e4");
        search("k7/8/8/8/8/8/8/KrR5 w - - 99 90", 2, 500 + 3, "c1b1");
    }

    private static void bare() {
        Checks.says("0 if it is BARE");
        value("4k3/8/8/8/8/8/8/3QK3 w - - 0 1", 1, 912 - 9 + 9);
        for (int n = 1; n <= 3; n++) {
            value("4k3/8/8/8/8/8/8/4K3 w - - 0 1", n, 0);
            value("4k3/8/8/8/8/8/8/N3K3 w - - 0 1", n, 0);
            value("4k3/8/8/8/8/8/8/1B2K3 b - - 0 1", n, 0);
        }
        Checks.says("0 if it is BARE: behind a move too");
        search("7k/8/8/8/8/8/1p6/K7 w - - 0 1", 2, 0, "a1b2");
        value("7k/8/8/8/8/8/1p6/K7 w - - 0 1", 3, 0);
        // Whoever has a knight more does not take the last pawn.
        search("7k/8/8/8/8/8/1p6/K5N1 w - - 0 1", 1, 326 - 6, "a1b2");
        search("7k/8/8/8/8/8/1p6/K5N1 w - - 0 1", 2, 326 - 3 - 126 + 3, "a1b1");
    }

    private static void mateBeforeFifty() {
        Checks.says("-30000 - n if it is MATE, before FIFTY counts");
        search("R5k1/5ppp/8/8/8/8/8/6K1 b - - 100 90", 1, -30001, "none");
        search("R5k1/5ppp/8/8/8/8/8/6K1 b - - 9999 90", 3, -30003, "none");
        search("6k1/5ppp/8/8/8/8/8/R5K1 w - - 99 90", 2, 30001, "a1a8");
        search("6k1/5ppp/8/8/8/8/8/R5K1 w - - 99 90", 3, 30002, "a1a8");
    }

    private static void notThrice() {
        Checks.says("(not THRICE)");
        KingsBoard board = Checks.set("4k3/8/8/8/8/8/4P3/4K3 w - - 0 1");
        Checks.play(board, SHUFFLE);
        Checks.due("THRICE", board.state(), 4);
        for (int n = 1; n <= 3; n++) {
            KingsBoard fresh = Checks.set("4k3/8/8/8/8/8/4P3/4K3 w - - 8 5");
            Checks.due("value at " + n, board.search(n), fresh.search(n));
            Checks.due("it is not 0", fresh.search(n) != 0, true);
            Checks.due("chosen at " + n, Checks.chosen(board), Checks.chosen(fresh));
        }
        Checks.says("(not THRICE): nor behind a move");
        KingsBoard near = Checks.set("4k3/8/8/8/8/8/4p3/4K3 b - - 0 1");
        Checks.play(near, "e8d8 e1d2 d8e8 d2e1 e8d8 e1d2 d8e8 d2e1");
        Checks.due("THRICE", near.state(), 4);
        near.back();
        Checks.due("one before", near.state(), 0);
        for (int n = 1; n <= 3; n++) {
            KingsBoard fresh = Checks.set(Checks.written(near));
            Checks.due("value at " + n, near.search(n), fresh.search(n));
            Checks.due("chosen at " + n, Checks.chosen(near), Checks.chosen(fresh));
        }
        Checks.says("0 if it is BARE, and THRICE as well");
        KingsBoard both = Checks.set("4k3/8/8/8/8/8/8/4K3 w - - 0 1");
        Checks.play(both, SHUFFLE);
        Checks.due("THRICE", both.state(), 4);
        Checks.due("value", both.search(1), 0);
    }

    private static void greatest() {
        Checks.says("else the greatest of 0 less the values at depth n - 1 of the positions behind its legal moves");
        String[] texts = {
            Checks.BEGINNING,
            "r3k2r/1P6/2n5/3pP3/8/8/P5p1/R3K2R w KQkq d6 20 30",
            "r3k2r/1P6/2n5/3pP3/8/8/P5p1/R3K2R w KQkq d6 98 30",
            "6k1/5ppp/8/8/8/8/8/R5K1 w - - 97 1",
            "8/5P1k/5K2/8/8/8/8/8 w - - 0 1",
            "7k/8/8/8/8/8/1p6/K7 w - - 99 1",
            "4k3/8/8/3b4/8/2B5/1n6/4K3 w - - 0 1",
            "r3k2r/p1ppqpb1/bn2pnp1/3PN3/1p2P3/2N2Q1p/PPPBBPPP/R3K2R w KQkq - 0 1",
            "r2q1rk1/pP1p2pp/Q4n2/bbp1p3/Np6/1B3NBn/pPPP1PPP/R3K2R b KQ - 0 1",
            "8/2p5/3p4/KP5r/1R3p1k/8/4P1P1/8 w - - 0 1",
            "rnbq1k1r/pp1Pbppp/2p5/8/2B5/8/PPP1NnPP/RNBQK2R w KQ - 1 8",
            "k2r4/3n4/8/8/8/8/3R4/K2Q4 w - - 0 1",
        };
        for (String text : texts) {
            for (int n = 1; n <= 3; n++) {
                byItsMoves(text, n);
                byItsMoves(Mirror.text(text), n);
            }
        }
    }

    private static void byItsMoves(String text, int n) {
        int least = Integer.MAX_VALUE;
        String first = "none";
        for (String move : Checks.moves(Checks.set(text)).split(" ")) {
            KingsBoard behind = Checks.set(text);
            Checks.play(behind, move);
            int value = n == 1 ? behind.worth() : behind.search(n - 1);
            if (value < least) {
                least = value;
                first = move;
            }
        }
        search(text, n, -least, first);
    }

    private static void taking() {
        Checks.says("the greatest of 0 less the values: a man that would be taken behind it counts");
        // A rook that takes the knight is taken in its turn.
        search("3k4/3n4/8/8/8/8/8/K2R4 w - - 0 1", 1, 520 + 9, "d1d7");
        search("3k4/3n4/8/8/8/8/8/K2R4 w - - 0 1", 2, 500 - 344 + 6, "d1d2");
        // A pawn that goes by two is taken by the PASSED square.
        search("k7/8/8/8/1p6/8/P7/K7 w - - 0 1", 2, 104 - 3 - 122, "a1b1");
        search("k7/8/8/8/2p5/8/P7/K7 w - - 0 1", 2, 112 - 124, "a2a4");
    }

    private static void first() {
        Checks.says("the first one behind which the value at depth - 1 is the least is CHOSEN");
        search(Checks.BEGINNING, 1, 18, "b1c3");
        search(Checks.BEGINNING, 2, 0, "b1c3");
        search(Checks.BEGINNING, 3, 18, "b1c3");
        search("k7/8/8/8/8/8/P6P/K7 w - - 0 1", 1, 208 + 8, "a2a4");
        search("k7/7p/8/8/8/8/8/K7 b - - 0 1", 1, 112, "h7h5");
        search("4k3/8/8/8/8/8/8/4K3 w - - 0 1", 2, 0, "e1d1");
        search("4k3/8/8/8/8/8/8/4K3 w - - 0 1", 3, 0, "e1d1");
        search("3r3k/8/8/8/8/8/3q4/4K3 w - - 0 1", 1, -6 - 500 - 908, "e1f1");
    }

    private static void whateverTheState() {
        Checks.says("(whatever the STATE is)");
        KingsBoard fifty = Checks.set("4k3/8/8/8/8/8/4q3/4K2R w - - 100 90");
        Checks.due("FIFTY", fifty.state(), 3);
        Checks.due("value", fifty.search(1), 0);
        Checks.due("the best is chosen all the same", Checks.chosen(fifty), "e1e2");
        search("4k3/8/8/8/8/8/8/4K3 w - - 0 1", 1, 0, "e1f1");
        search("4k3/8/8/8/8/8/8/N3K3 w - - 0 1", 1, 0, "a1c2");
        search("6k1/5ppp/8/8/8/8/8/R5K1 w - - 100 90", 2, 0, "a1a8");
        KingsBoard thrice = Checks.set("4k3/8/8/8/8/8/4P3/4K3 w - - 0 1");
        Checks.play(thrice, SHUFFLE);
        thrice.search(1);
        Checks.due("THRICE", Checks.chosen(thrice), "e2e4");
    }

    private static void noneWithoutMoves() {
        Checks.says("if there are legal moves; NONE when there was none");
        for (String text : new String[] {MATE, STALE}) {
            KingsBoard board = new KingsBoard();
            board.search(1);
            Checks.due("chosen", Checks.chosen(board), "b1c3");
            Checks.due("read", Checks.read(board, text), 0);
            board.search(1);
            for (int what = 0; what < 3; what++) {
                Checks.due("chosen(" + what + ")", board.chosen(what), KingsBoard.NONE);
            }
        }
        KingsBoard fresh = new KingsBoard();
        for (int what = 0; what < 3; what++) {
            Checks.due("nothing was searched: chosen(" + what + ")", fresh.chosen(what), KingsBoard.NONE);
        }
    }

    private static void becomes() {
        Checks.says("chosen: of the move, as for move()");
        search("7k/P7/8/8/8/8/8/K7 w - - 0 1", 1, 900, "a7a8=5");
        search("8/5P1k/8/6K1/8/8/8/8 w - - 0 1", 1, 904 - 12 + 3, "f7f8=5");
        KingsBoard board = Checks.set("7k/P7/8/8/8/8/8/K7 w - - 0 1");
        board.search(1);
        Checks.due("from", board.chosen(0), 48);
        Checks.due("to", board.chosen(1), 56);
        Checks.due("becomes", board.chosen(2), 5);
        KingsBoard other = new KingsBoard();
        other.search(1);
        Checks.due("from", other.chosen(0), 1);
        Checks.due("to", other.chosen(1), 18);
        Checks.due("no pawn", other.chosen(2), 0);
    }

    private static void latest() {
        Checks.says("of the move that the latest search() chose");
        KingsBoard board = new KingsBoard();
        board.search(1);
        Checks.play(board, "e2e4");
        Checks.due("behind a move", Checks.chosen(board), "b1c3");
        board.back();
        Checks.dueThrow("a wrong depth", IllegalArgumentException.class, () -> board.search(4));
        Checks.due("behind a call that threw", Checks.chosen(board), "b1c3");
        board.ways(3);
        Checks.due("behind ways", Checks.chosen(board), "b1c3");
        Checks.due("read", Checks.read(board, STALE), 0);
        Checks.due("behind read", Checks.chosen(board), "b1c3");
        board.search(1);
        Checks.due("the latest search chose none", Checks.chosen(board), "none");
        Checks.due("read", Checks.read(board, "7k/P7/8/8/8/8/8/K7 w - - 0 1"), 0);
        board.search(1);
        Checks.due("the latest one", Checks.chosen(board), "a7a8=5");
    }

    private static void wrongInputs() {
        Checks.says("search: IllegalArgumentException: depth is not 1 .. 3; chosen: another what");
        KingsBoard board = new KingsBoard();
        for (int depth : new int[] {-1, 0, 4, Integer.MIN_VALUE, Integer.MAX_VALUE}) {
            Checks.dueThrow("search(" + depth + ")", IllegalArgumentException.class, () -> board.search(depth));
        }
        Checks.due("nothing was chosen", board.chosen(0), KingsBoard.NONE);
        for (int round = 0; round < 2; round++) {
            for (int what : new int[] {-1, 3, Integer.MIN_VALUE, Integer.MAX_VALUE}) {
                Checks.dueThrow("chosen(" + what + ")", IllegalArgumentException.class, () -> board.chosen(what));
            }
            board.search(1);
        }
    }
}
