/** Promise 15: ways, with counts that are known of these positions. */
public final class WaysTest {
    public static void main(String[] args) {
        ways(Checks.BEGINNING, 20, 400, 8902);
        ways("r3k2r/p1ppqpb1/bn2pnp1/3PN3/1p2P3/2N2Q1p/PPPBBPPP/R3K2R w KQkq - 0 1", 48, 2039, 97862);
        ways("8/2p5/3p4/KP5r/1R3p1k/8/4P1P1/8 w - - 0 1", 14, 191, 2812);
        ways("r3k2r/Pppp1ppp/1b3nbN/nP6/BBP1P3/q4N2/Pp1P2PP/R2Q1RK1 w kq - 0 1", 6, 264, 9467);
        ways("r2q1rk1/pP1p2pp/Q4n2/bbp1p3/Np6/1B3NBn/pPPP1PPP/R3K2R b KQ - 0 1", 6, 264, 9467);
        ways("rnbq1k1r/pp1Pbppp/2p5/8/2B5/8/PPP1NnPP/RNBQK2R w KQ - 1 8", 44, 1486, 62379);
        ways("r4rk1/1pp1qppp/p1np1n2/2b1p1B1/2B1P1b1/P1NP1N2/1PP1QPPP/R4RK1 w - - 0 10", 46, 2079, 89890);
        ways("R5k1/5ppp/8/8/8/8/8/6K1 b - - 0 1", 0, 0, 0);
        ways("4k3/8/8/8/8/8/8/4K3 w - - 500 1", 5, 25, 170);
        wrongInputs();
        Checks.finish();
    }

    private static void ways(String text, int one, int two, int three) {
        KingsBoard board = Checks.set(text);
        Checks.due("0 deep " + text, board.ways(0), 1);
        Checks.due("1 deep " + text, board.ways(1), one);
        Checks.due("2 deep " + text, board.ways(2), two);
        Checks.due("3 deep " + text, board.ways(3), three);
        Checks.due("the position stays", Checks.written(board), text);
    }

    private static void wrongInputs() {
        KingsBoard board = new KingsBoard();
        for (int depth : new int[] {-1, 4, Integer.MIN_VALUE, Integer.MAX_VALUE}) {
            Checks.dueThrow("ways(" + depth + ")", IllegalArgumentException.class, () -> board.ways(depth));
        }
    }
}
