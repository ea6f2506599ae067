/** Promise 15: ways, with counts that are known of these positions. */
public final class WaysTest {
    private static final String MANY = "r3k2r/p1ppqpb1/bn2pnp1/3PN3/1p2P3/2N2Q1p/PPPBBPPP/R3K2R w KQkq - 0 1";

    public static void main(String[] args) {
        Checks.says("in how many ways so many legal moves can be made one behind the other (1 for 0)");
        ways(Checks.BEGINNING, 20, 400, 8902);
        ways(MANY, 48, 2039, 97862);
        ways("8/2p5/3p4/KP5r/1R3p1k/8/4P1P1/8 w - - 0 1", 14, 191, 2812);
        ways("r3k2r/Pppp1ppp/1b3nbN/nP6/BBP1P3/q4N2/Pp1P2PP/R2Q1RK1 w kq - 0 1", 6, 264, 9467);
        ways("rnbq1k1r/pp1Pbppp/2p5/8/2B5/8/PPP1NnPP/RNBQK2R w KQ - 1 8", 44, 1486, 62379);
        ways("r4rk1/1pp1qppp/p1np1n2/2b1p1B1/2B1P1b1/P1NP1N2/1PP1QPPP/R4RK1 w - - 0 10", 46, 2079, 89890);
        asTheDocumentSays();
        noMoves();
        statesToGoOnIn();
        passed();
        wrongInputs();
        Checks.finish();
    }

    private static void ways(String text, int one, int two, int three) {
        waysOnce(text, one, two, three);
        waysOnce(Mirror.text(text), one, two, three);
    }

    private static void waysOnce(String text, int one, int two, int three) {
        KingsBoard board = Checks.set(text);
        Checks.due("0 deep " + text, board.ways(0), 1);
        Checks.due("1 deep " + text, board.ways(1), one);
        Checks.due("2 deep " + text, board.ways(2), two);
        Checks.due("3 deep " + text, board.ways(3), three);
        Checks.due("the position stays", Checks.written(board), text);
    }

    private static void asTheDocumentSays() {
        Checks.says("one behind the other: the ways behind each move together");
        for (String text : new String[] {MANY, "r3k2r/1P6/8/3pP3/8/8/6p1/R3K2R w KQkq d6 0 1"}) {
            int[] sums = new int[3];
            String[] moves = Checks.moves(Checks.set(text)).split(" ");
            for (String move : moves) {
                KingsBoard board = Checks.set(text);
                Checks.play(board, move);
                for (int depth = 0; depth < 3; depth++) {
                    sums[depth] += board.ways(depth);
                }
            }
            for (int depth = 0; depth < 3; depth++) {
                Checks.due("ways " + (depth + 1) + " of " + text, Checks.set(text).ways(depth + 1), sums[depth]);
            }
        }
    }

    private static void noMoves() {
        Checks.says("1 for 0, and none where there is no legal move");
        ways("R5k1/5ppp/8/8/8/8/8/6K1 b - - 0 1", 0, 0, 0);
        ways("7k/5Q2/6K1/8/8/8/8/8 b - - 0 1", 0, 0, 0);
        Checks.says("ways that end early do not count");
        KingsBoard board = Checks.set("6k1/5ppp/8/8/8/8/8/R5K1 w - - 0 1");
        int behind = board.ways(2);
        Checks.play(board, "a1a8");
        Checks.due("none behind mate", board.ways(1), 0);
        board.back();
        Checks.due("as before", board.ways(2), behind);
    }

    private static void statesToGoOnIn() {
        Checks.says("legal moves, whatever the STATE is: one may go on in FIFTY, THRICE and BARE");
        ways("4k3/8/8/8/8/8/8/4K3 w - - 500 1", 5, 25, 170);
        ways("4k3/8/8/8/8/8/8/4K3 w - - 0 1", 5, 25, 170);
        ways("4k3/8/8/8/8/8/8/4K3 w - - 98 1", 5, 25, 170);
        KingsBoard board = new KingsBoard();
        Checks.play(board, "g1f3 g8f6 f3g1 f6g8 g1f3 g8f6 f3g1 f6g8");
        Checks.due("THRICE", board.state(), 4);
        Checks.due("3 deep", board.ways(3), 8902);
    }

    private static void passed() {
        Checks.says("legal moves: those by a PASSED square too, here and behind a move by two");
        ways("7k/8/8/3pP3/8/8/8/K7 w - d6 0 1", 5, 19, 111);
        ways("7k/8/8/3pP3/8/8/8/K7 w - - 0 1", 4, 16, 99);
        ways("7k/3p4/8/4P3/8/8/8/K7 b - - 0 1", 5, 22, 135);
    }

    private static void wrongInputs() {
        Checks.says("ways: IllegalArgumentException: depth is not 0 .. 3");
        KingsBoard board = new KingsBoard();
        for (int depth : new int[] {-1, 4, Integer.MIN_VALUE, Integer.MAX_VALUE}) {
            Checks.dueThrow("ways(" + depth + ")", IllegalArgumentException.class, () -> board.ways(depth));
        }
        Checks.due("0", board.ways(0), 1);
        Checks.due("3", board.ways(3), 8902);
    }
}
