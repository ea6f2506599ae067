/** Promises 3 and 4: read and place, with each FAULT and each PLACE. */
public final class ReadingTest {
    private static final String KINGS = "k7/8/8/8/8/8/8/7K";

    public static void main(String[] args) {
        places();
        faults();
        leastFault();
        rightRows();
        passedWithoutMove();
        whatStays();
        whatGoes();
        Checks.finish();
    }

    private static void place(String text, int place) {
        KingsBoard board = new KingsBoard();
        Checks.due("read of " + text, Checks.read(board, text), 1);
        Checks.due("place in " + text, board.place(), place);
        Checks.due("the position behind " + text, Checks.written(board), Checks.BEGINNING);
    }

    private static void places() {
        place("", 0);
        place(" ", 0);
        place("x", 0);
        place("0", 0);
        place("9", 0);
        place("8", 1);
        place("8 ", 1);
        place("8/", 2);
        place("44", 1);
        place("p8", 1);
        place("ppppppppp", 8);
        place("8p", 1);
        place("7/", 1);
        place("7 ", 1);
        place("p2p2p/", 5);
        place("8//", 2);
        place("8/8/8/8/8/8/8/8/", 15);
        place("8/8/8/8/8/8/8/7 w", 15);
        place("8/8/8/8/8/8/8/8", 15);
        place("8/8/8/8/8/8/8 w", 13);
        place(KINGS, 17);
        place(KINGS + " ", 18);
        place(KINGS + " W", 18);
        place(KINGS + "  w", 18);
        place(KINGS + " w", 19);
        place(KINGS + " ww", 19);
        place(KINGS + " w ", 20);
        place(KINGS + " w x", 20);
        place(KINGS + " w  ", 20);
        place(KINGS + " w KK", 21);
        place(KINGS + " w QK", 21);
        place(KINGS + " w kQ", 21);
        place(KINGS + " w KQkqK", 24);
        place(KINGS + " w -K", 21);
        place(KINGS + " w K-", 21);
        place(KINGS + " w -", 21);
        place(KINGS + " w - ", 22);
        place(KINGS + " w - i", 22);
        place(KINGS + " w - A", 22);
        place(KINGS + " w - a", 23);
        place(KINGS + " w - a0", 23);
        place(KINGS + " w - a9", 23);
        place(KINGS + " w - a33", 24);
        place(KINGS + " w - --", 23);
        place(KINGS + " w - -", 23);
        place(KINGS + " w - - ", 24);
        place(KINGS + " w - - -", 24);
        place(KINGS + " w - - x", 24);
        place(KINGS + " w - - 00", 25);
        place(KINGS + " w - - 01 1", 25);
        place(KINGS + " w - - 12345 1", 28);
        place(KINGS + " w - - 10000 1", 28);
        place(KINGS + " w - - 9999", 28);
        place(KINGS + " w - - 0", 25);
        place(KINGS + " w - - 0 ", 26);
        place(KINGS + " w - - 0 0", 26);
        place(KINGS + " w - - 0 01", 26);
        place(KINGS + " w - - 0 x", 26);
        place(KINGS + " w - - 0 1 ", 27);
        place(KINGS + " w - - 0 1x", 27);
        place(KINGS + " w - - 0 99999", 30);
        place(KINGS + " w - - 0 10000", 30);
    }

    private static void fault(String text, int fault) {
        KingsBoard board = new KingsBoard();
        Checks.due("read of " + text, Checks.read(board, text), fault);
        Checks.due("place in " + text, board.place(), KingsBoard.NONE);
        Checks.due("the position behind " + text, Checks.written(board), Checks.BEGINNING);
    }

    private static void faults() {
        fault("8/8/8/8/8/8/8/8 w - - 0 1", 2);
        fault("k7/8/8/8/8/8/8/8 w - - 0 1", 2);
        fault("8/8/8/8/8/8/8/K7 w - - 0 1", 2);
        fault("k6k/8/8/8/8/8/8/K7 w - - 0 1", 2);
        fault("k7/8/8/8/8/8/8/K6K w - - 0 1", 2);
        fault("k7/8/8/8/8/NNNNNNNN/NNNNNNNN/K7 b - - 0 1", 2);
        fault("k7/nnnnnnnn/nnnnnnnn/8/8/8/8/K7 w - - 0 1", 2);
        fault("k6P/8/8/8/8/8/8/K7 w - - 0 1", 3);
        fault("k6p/8/8/8/8/8/8/K7 w - - 0 1", 3);
        fault("k7/8/8/8/8/8/8/K6P w - - 0 1", 3);
        fault("k7/8/8/8/8/8/8/K6p w - - 0 1", 3);
        fault("k7/8/8/8/8/8/8/R6K w - - 0 1", 4);
        fault("k6r/8/8/8/8/8/8/7K b - - 0 1", 4);
        fault("8/8/8/3kK3/8/8/8/8 w - - 0 1", 4);
        fault("8/8/8/3kK3/8/8/8/8 b - - 0 1", 4);
        fault("4k3/3P4/8/8/8/8/8/4K3 w - - 0 1", 4);
        fault("4k3/8/8/8/8/8/8/4K3 w K - 0 1", 5);
        fault("4k3/8/8/8/8/8/8/4K2R w Q - 0 1", 5);
        fault("4k3/8/8/8/8/8/8/4K2r w K - 0 1", 5);
        fault("4k3/8/8/8/8/8/8/3K3R w K - 0 1", 5);
        fault("4k3/8/8/8/8/8/8/R2K4 w Q - 0 1", 5);
        fault("4k2R/8/8/8/8/8/8/4K3 b k - 0 1", 5);
        fault("3k3r/8/8/8/8/8/8/4K3 w k - 0 1", 5);
        fault("4k2r/8/8/8/8/8/8/4K3 w q - 0 1", 5);
        fault("4k3/8/8/3pP3/8/8/8/4K3 w - d5 0 1", 6);
        fault("4k3/8/8/3pP3/8/8/8/4K3 w - d3 0 1", 6);
        fault("4k3/8/8/3pP3/8/8/8/4K3 w - a1 0 1", 6);
        fault("4k3/8/8/3pP3/8/8/8/4K3 w - h8 0 1", 6);
        fault("4k3/8/8/3pP3/8/8/8/4K3 w - e6 0 1", 6);
        fault("4k3/8/8/3pP3/8/8/8/4K3 w - c6 0 1", 6);
        fault("4k3/8/3n4/3pP3/8/8/8/4K3 w - d6 0 1", 6);
        fault("4k3/3n4/8/3pP3/8/8/8/4K3 w - d6 0 1", 6);
        fault("4k3/8/8/3PP3/8/8/8/4K3 w - d6 0 1", 6);
        fault("4k3/8/8/3nP3/8/8/8/4K3 w - d6 0 1", 6);
        fault("4k3/8/8/3pP3/8/8/8/4K3 b - d6 0 1", 6);
        fault("4k3/8/8/8/3pP3/8/4N3/4K3 b - e3 0 1", 6);
        fault("4k3/8/8/8/3pP3/4N3/8/4K3 b - e3 0 1", 6);
    }

    private static void leastFault() {
        fault("k6P/8/8/8/8/8/8/8 w K a1 0 1", 2);
        fault("k6P/8/8/8/8/8/8/R6K w K a1 0 1", 3);
        fault("k7/8/8/8/8/8/8/R6K w K a1 0 1", 4);
        fault("1k6/8/8/8/8/8/8/R6K w K a1 0 1", 5);
        fault("1k6/8/8/8/8/8/8/R6K w - a1 0 1", 6);
        place("k6P/8/8/8/8/8/8/8 w K a1 0 0", 27);
    }

    private static void rightRows() {
        String[] rows = {
            Checks.BEGINNING,
            "r3k2r/8/8/8/8/8/8/R3K2R b Kq - 9999 9999",
            "r3k2r/8/8/8/8/8/8/R3K2R w Qk - 0 10",
            "4k3/8/8/3pP3/8/8/8/4K3 w - d6 0 1",
            "4k3/8/8/8/3pP3/8/8/4K3 b - e3 99 100",
            "k7/8/8/8/8/NNNNNNNN/NNNNNNN1/K7 b - - 0 1",
            "1n1k1b1r/p1p1p1p1/1n1n1n1n/8/2P2P2/1P4P1/8/RNBQ1K1R w - - 3 7",
        };
        for (String text : rows) {
            KingsBoard board = Checks.set(text);
            Checks.due("place", board.place(), KingsBoard.NONE);
            Checks.due("written again", Checks.written(board), text);
        }
    }

    private static void passedWithoutMove() {
        String[] begins = {
            "4k3/8/8/3p4/8/8/8/4K3 w - ",
            "4k3/8/8/K2pP2q/8/8/8/8 w - ",
            "4r1k1/8/8/3pP3/8/8/8/4K3 w - ",
            "4k3/8/8/3p3P/8/8/8/4K3 w - ",
        };
        for (String begin : begins) {
            KingsBoard board = Checks.set(begin + "d6 0 1");
            Checks.due("passed", board.about(2), KingsBoard.NONE);
            Checks.due("written", Checks.written(board), begin + "- 0 1");
        }
    }

    private static void whatStays() {
        KingsBoard board = new KingsBoard();
        for (int round = 0; round < 2; round++) {
            Checks.play(board, "g1f3 g8f6 f3g1 f6g8");
            Checks.due("a fault", Checks.read(board, "8/8/8/8/8/8/8/8 w - - 0 1"), 2);
            Checks.due("not written so", Checks.read(board, "rnbqkbnr/pppppppp/8/9"), 1);
            Checks.due("its place", board.place(), 20);
        }
        Checks.due("what stood before stays", board.state(), 4);
        Checks.due("what can be taken back stays", board.back(), 7);
    }

    private static void whatGoes() {
        KingsBoard board = new KingsBoard();
        Checks.play(board, "g1f3 g8f6 f3g1 f6g8 g1f3 g8f6 f3g1 f6g8");
        Checks.due("thrice", board.state(), 4);
        Checks.due("a fault", Checks.read(board, "x"), 1);
        Checks.due("its place", board.place(), 0);
        board.search(1);
        Checks.due("read", Checks.read(board, Checks.BEGINNING), 0);
        Checks.due("no place", board.place(), KingsBoard.NONE);
        Checks.due("nothing stood before", board.state(), 0);
        Checks.dueThrow("back", IllegalStateException.class, board::back);
        Checks.due("what was chosen stays", Checks.chosen(board), "b1c3");
        Checks.play(board, "g1f3 g8f6 f3g1 f6g8");
        Checks.due("stood once before", board.state(), 0);
    }
}
