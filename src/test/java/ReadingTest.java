/** Promise 3: read. (PLACES and FAULTS have tests of their own, and what stays is in StillTest too.) */
public final class ReadingTest {
    private static final String PAWNS = "4k3/8/8/8/3pP3/8/8/4K3 b - e3 0 9";

    public static void main(String[] args) {
        set();
        usedUp();
        nothingTyped();
        whatStays();
        whatGoes();
        Checks.finish();
    }

    private static void set() {
        Checks.says("the characters typed are read as a position: 0 when that is set then");
        KingsBoard board = Checks.set("r3k3/8/8/8/3pP3/8/8/R3K3 b Qq e3 12 345");
        int[] about = {1, 10, Checks.at("e3"), 12, 345, 0};
        for (int what = 0; what < 6; what++) {
            Checks.due("about " + what, board.about(what), about[what]);
        }
        int[] men = {0, 4, 4, 6, 28, 1, 27, -1, 56, -4, 60, -6};
        int sum = 0;
        for (int k = 0; k < men.length; k += 2) {
            Checks.due("man on " + men[k], board.man(men[k]), men[k + 1]);
        }
        for (int square = 0; square < 64; square++) {
            sum += board.man(square) == 0 ? 0 : 1;
        }
        Checks.due("no other men", sum, 6);
        String[] rows = {
            Checks.BEGINNING,
            "r3k2r/8/8/8/8/8/8/R3K2R b Kq - 9999 9999",
            "r3k2r/8/8/8/8/8/8/R3K2R w Qk - 0 10",
            "4k3/8/8/3pP3/8/8/8/4K3 w - d6 0 1",
            "4k3/8/8/8/3pP3/8/8/4K3 b - e3 99 100",
            "k7/8/8/8/8/NNNNNNNN/NNNNNNN1/K7 b - - 0 1",
            "1n1k1b1r/p1p1p1p1/1n1n1n1n/8/2P2P2/1P4P1/8/RNBQ1K1R w - - 3 7",
            "R5k1/5ppp/8/8/8/8/8/6K1 b - - 0 1",
            "7k/5Q2/6K1/8/8/8/8/8 b - - 0 1",
        };
        for (String text : rows) {
            Checks.due("written again", Checks.written(Checks.set(text)), text);
        }
    }

    private static void usedUp() {
        Checks.says("the characters typed are used up");
        KingsBoard board = new KingsBoard();
        Checks.due("set", Checks.read(board, PAWNS), 0);
        Checks.due("nothing is left", board.type('x', 1), 1);
        Checks.due("FAULT 1", board.read(), 1);
        Checks.due("nothing is left", board.type('8', 1), 1);
        board.read();
        Checks.due("FAULT 2", Checks.read(board, "8/8/8/8/8/8/8/8 w - - 0 1"), 2);
        Checks.due("set behind faults", Checks.read(board, PAWNS), 0);
        Checks.due("read twice", board.read(), 1);
        Checks.due("which changes nothing", Checks.written(board), PAWNS);
    }

    private static void nothingTyped() {
        Checks.says("nothing typed is no position: FAULT 1, and PLACE the end");
        KingsBoard board = new KingsBoard();
        Checks.due("read", board.read(), 1);
        Checks.due("place", board.place(), 0);
        Checks.due("the position", Checks.written(board), Checks.BEGINNING);
    }

    private static void whatStays() {
        Checks.says("else the FAULT, and all but the characters stays (what can be taken back, and what stood before, too)");
        KingsBoard board = new KingsBoard();
        for (int round = 0; round < 2; round++) {
            Checks.play(board, "g1f3 g8f6 f3g1 f6g8");
            Checks.due("a fault", Checks.read(board, "8/8/8/8/8/8/8/8 w - - 0 1"), 2);
            Checks.due("not written so", Checks.read(board, "rnbqkbnr/pppppppp/8/9"), 1);
            Checks.due("its place", board.place(), 20);
        }
        Checks.due("what stood before stays", board.state(), 4);
        for (int left = 7; left >= 0; left--) {
            Checks.due("what can be taken back stays", board.back(), left);
        }
        Checks.due("the beginning", Checks.written(board), Checks.BEGINNING);
    }

    private static void whatGoes() {
        Checks.says("(nothing can be taken back, nothing stood before)");
        KingsBoard board = new KingsBoard();
        Checks.play(board, "g1f3 g8f6 f3g1 f6g8 g1f3 g8f6 f3g1 f6g8");
        Checks.due("thrice", board.state(), 4);
        Checks.due("read", Checks.read(board, Checks.BEGINNING), 0);
        Checks.due("nothing stood before", board.state(), 0);
        Checks.dueThrow("back", IllegalStateException.class, board::back);
        Checks.play(board, "g1f3 g8f6 f3g1 f6g8");
        Checks.due("stood once before", board.state(), 0);
        Checks.due("four to take back", board.back(), 3);
    }
}
