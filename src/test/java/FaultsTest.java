/** FAULTS 2 to 6 of a row that is read, each with the last position that is still taken beside it. */
public final class FaultsTest {
    public static void main(String[] args) {
        kings();
        sixteenMen();
        pawns();
        check();
        rightsOfEach();
        passedSquare();
        passedFree();
        passedPawn();
        leastCounts();
        passedWithoutMove();
        Checks.finish();
    }

    private static void fault(int fault, String... texts) {
        for (String text : texts) {
            faultOnce(fault, text);
            faultOnce(fault, Mirror.text(text));
        }
    }

    private static void faultOnce(int fault, String text) {
        KingsBoard board = new KingsBoard();
        Checks.due("read of " + text, Checks.read(board, text), fault);
        Checks.due("place in " + text, board.place(), KingsBoard.NONE);
        Checks.due("the position behind " + text, Checks.written(board), fault == 0 ? text : Checks.BEGINNING);
    }

    private static void taken(String... texts) {
        fault(0, texts);
    }

    private static void kings() {
        Checks.says("2 a side has not just one king");
        fault(2, "8/8/8/8/8/8/8/8 w - - 0 1", "k7/8/8/8/8/8/8/8 w - - 0 1", "k7/8/8/8/8/8/8/8 b - - 0 1");
        fault(2, "k6k/8/8/8/8/8/8/K7 w - - 0 1", "k6k/8/8/8/8/8/8/K7 b - - 0 1", "q7/8/8/8/8/8/8/K7 w - - 0 1");
        fault(2, "k7/8/8/8/8/8/8/K6K w - - 0 1", "k1k1k3/8/8/8/8/8/8/K1K1K3 w - - 0 1");
        taken("k7/8/8/8/8/8/8/K7 w - - 0 1", "k7/8/8/8/8/8/8/K7 b - - 0 1");
    }

    private static void sixteenMen() {
        Checks.says("2 or more than 16 men");
        fault(2, "k7/8/8/8/8/NNNNNNNN/NNNNNNNN/K7 b - - 0 1", "k7/8/8/8/PPPPPPPP/PPPPPPPP/8/K7 b - - 0 1");
        fault(2, "rnbqkbnr/pppppppp/8/8/8/P7/PPPPPPPP/RNBQKBNR w KQkq - 0 1");
        fault(2, "rnbqkbnr/pppppppp/p7/8/8/8/PPPPPPPP/RNBQKBNR w KQkq - 0 1");
        taken("k7/8/8/8/8/NNNNNNNN/NNNNNNN1/K7 b - - 0 1", "k7/8/8/8/PPPPPPPP/PPPPPPP1/8/K7 b - - 0 1");
        taken(Checks.BEGINNING, "rnbqkbnr/pppppppp/8/8/8/P7/1PPPPPPP/RNBQKBNR w KQkq - 0 1");
    }

    private static void pawns() {
        Checks.says("3 there is a pawn of rank 0 or 7");
        for (int square = 0; square < 64; square++) {
            for (int man = -1; man <= 1; man += 2) {
                int row = square / 8;
                PlainBoard plain = new PlainBoard();
                plain.mover = man > 0 ? 0 : 1;
                // Far from the pawn, so that it gives no check.
                plain.men[row < 4 ? 40 : 16] = 6;
                plain.men[row < 4 ? 47 : 23] = -6;
                plain.men[square] = man;
                faultOnce(row == 0 || row == 7 ? 3 : 0, plain.written());
            }
        }
        fault(3, "k6P/8/8/8/8/8/8/K7 w - - 0 1", "k6p/8/8/8/8/8/8/K7 w - - 0 1");
    }

    private static void check() {
        Checks.says("4 the side that is not to move is in check");
        fault(4, "k7/8/8/8/8/8/8/R6K w - - 0 1", "k7/8/8/8/8/8/8/Q6K w - - 0 1", "k7/8/8/8/8/5B2/8/7K w - - 0 1");
        fault(4, "k7/2N5/8/8/8/8/8/7K w - - 0 1", "k7/1P6/8/8/8/8/8/7K w - - 0 1", "kK6/8/8/8/8/8/8/8 w - - 0 1");
        fault(4, "8/8/8/3kK3/8/8/8/8 w - - 0 1", "8/8/8/3k4/4K3/8/8/8 b - - 0 1");
        taken("k7/8/8/8/8/8/8/R6K b - - 0 1", "k7/2N5/8/8/8/8/8/7K b - - 0 1", "k7/1P6/8/8/8/8/8/7K b - - 0 1");
        taken("k7/p7/8/8/8/8/8/R6K w - - 0 1", "k7/P7/8/8/8/8/8/7K w - - 0 1", "k1K5/8/8/8/8/8/8/8 w - - 0 1");
        taken("k7/3N4/8/8/8/8/8/7K w - - 0 1", "k7/1b6/8/8/8/5B2/8/6K1 w - - 0 1");
    }

    private static void rightsOfEach() {
        Checks.says("5 there is a RIGHT without the king at his place");
        fault(5, "4k3/8/8/8/8/8/8/3K3R w K - 0 1", "4k3/8/8/8/8/8/8/5K1R w K - 0 1", "4k3/8/8/8/8/8/4K3/7R w K - 0 1");
        fault(5, "4k3/8/8/8/8/8/8/R2K4 w Q - 0 1", "4k3/8/8/8/8/8/8/R4K2 w Q - 0 1", "4k3/8/8/8/8/8/4K3/R7 w Q - 0 1");
        fault(5, "4k3/8/8/8/8/8/8/R2QK2R w KQkq - 0 1", "3k4/8/8/8/8/8/8/R3K2R w KQk - 0 1");
        Checks.says("5 or the rook in that corner");
        fault(5, "4k3/8/8/8/8/8/8/4K3 w K - 0 1", "4k3/8/8/8/8/8/8/4K3 w Q - 0 1", "4k3/8/8/8/8/8/8/R3K3 w K - 0 1");
        fault(5, "4k3/8/8/8/8/8/8/4K2R w Q - 0 1", "4k3/8/8/8/8/8/8/4K2r w K - 0 1", "4k3/8/8/8/8/8/8/r3K3 w Q - 0 1");
        fault(5, "4k3/8/8/8/8/8/8/4K1R1 w K - 0 1", "4k3/8/8/8/8/8/8/1R2K3 w Q - 0 1", "4k3/8/8/8/8/8/7R/4K3 w K - 0 1");
        fault(5, "4k3/8/8/8/8/8/8/4K2Q w K - 0 1", "4k3/8/8/8/8/8/8/N3K3 w Q - 0 1", "4k3/8/8/8/8/8/8/R3K3 w KQ - 0 1");
        fault(5, "4k3/8/8/8/8/8/8/R3K2R w k - 0 1", "4k3/8/8/8/8/8/8/R3K2R w q - 0 1", "4k2r/8/8/8/8/8/8/4K3 b q - 0 1");
        Checks.says("5: with king and rook there it is none");
        taken("4k3/8/8/8/8/8/8/4K2R w K - 0 1", "4k3/8/8/8/8/8/8/R3K3 w Q - 0 1", "4k3/8/8/8/8/8/8/R3K2R b KQ - 0 1");
        taken("4k3/8/8/8/8/8/8/R3K2R w - - 0 1", "r3k2r/8/8/8/8/8/8/R3K2R w Kq - 0 1");
        taken("r3k2r/8/8/8/8/8/8/R3K2R w Qk - 0 1");
    }

    private static void passedSquare() {
        Checks.says("6 the PASSED square is not on rank 5 of the side to move");
        for (int square = 0; square < 64; square++) {
            String name = Checks.name(square);
            fault(name.equals("d6") ? 0 : 6, "4k3/8/8/2PpP3/8/8/8/4K3 w - " + name + " 0 1");
        }
        for (int square = 8; square < 56; square++) {
            for (int mover = 0; mover < 2; mover++) {
                behindPawn(square, mover);
            }
        }
    }

    /** All is as it should be, the pawn one down too, but perhaps the rank. */
    private static void behindPawn(int square, int mover) {
        int down = mover == 0 ? square - 8 : square + 8;
        if (down < 8 || down > 55) {
            return;
        }
        PlainBoard plain = new PlainBoard();
        plain.mover = mover;
        plain.passed = square;
        plain.men[down] = mover == 0 ? -1 : 1;
        int column = square % 8 < 4 ? 7 : 0;
        plain.men[column] = 6;
        plain.men[56 + column] = -6;
        int due = PlainBoard.rank(square, mover) == 5 ? 0 : 6;
        Checks.due("read of " + plain.written(), Checks.read(new KingsBoard(), plain.written()), due);
    }

    private static void passedFree() {
        Checks.says("6 it or the one up from it is not free");
        String[] letters = {"n", "N", "b", "R", "p", "P", "q"};
        for (String man : letters) {
            fault(6, "k7/8/3" + man + "4/3pP3/8/8/8/4K3 w - d6 0 1");
            fault(6, "k7/3" + man + "4/8/3pP3/8/8/8/4K3 w - d6 0 1");
        }
        taken("k2r4/2n1n3/2n1n3/3pP3/3P4/8/8/4K3 w - d6 0 1");
        taken("k2n4/8/8/3pP3/8/8/8/4K3 w - d6 0 1");
    }

    private static void passedPawn() {
        Checks.says("6 or a pawn of the other side is not one down from it");
        for (String man : new String[] {"P", "n", "b", "r", "q", "N"}) {
            fault(6, "k7/8/8/3" + man + "P3/8/8/8/4K3 w - d6 0 1");
        }
        fault(6, "k7/8/8/4P3/8/8/8/4K3 w - d6 0 1", "8/8/8/3kP3/8/8/8/4K3 w - d6 0 1");
        fault(6, "k7/8/8/4P3/3p4/8/8/4K3 w - d6 0 1", "k7/8/8/2p1P3/8/8/8/4K3 w - d6 0 1");
        taken("k7/8/8/3pP3/8/8/8/4K3 w - d6 0 1");
    }

    private static void leastCounts() {
        Checks.says("the least fault counts");
        fault(2, "k6P/8/8/8/8/8/8/8 w - - 0 1", "k7/8/8/8/8/8/8/R7 w - - 0 1", "k7/8/8/8/8/8/8/8 w K - 0 1");
        fault(2, "k7/8/8/8/8/8/8/8 w - a1 0 1", "k6P/8/8/8/8/8/8/R7 w K a1 0 1");
        fault(3, "k6P/8/8/8/8/8/8/R6K w - - 0 1", "k6P/8/8/8/8/8/8/7K w K - 0 1", "k6P/8/8/8/8/8/8/7K w - a1 0 1");
        fault(4, "k7/8/8/8/8/8/8/R6K w K - 0 1", "k7/8/8/8/8/8/8/R6K w - a1 0 1", "k7/8/8/8/8/8/8/R6K w K a1 0 1");
        fault(5, "1k6/8/8/8/8/8/8/R6K w K a1 0 1");
        fault(6, "1k6/8/8/8/8/8/8/R6K w - a1 0 1");
        for (String text : new String[] {"k6P/8/8/8/8/8/8/R7 w K a1 0 0", "8/8/8/8/8/8/8/8 w K a1 0 1 "}) {
            KingsBoard board = new KingsBoard();
            Checks.due("read of " + text, Checks.read(board, text), 1);
        }
    }

    private static void passedWithoutMove() {
        Checks.says("a PASSED square by which there is no legal move is none, when it is right");
        none("4k3/8/8/3p4/8/8/8/4K3 w - ");
        none("4k3/8/8/3p3P/8/8/8/4K3 w - ");
        none("4k3/8/8/3pN3/8/8/8/4K3 w - ");
        none("4k3/8/8/3pp3/8/8/8/4K3 w - ");
        none("4k3/8/8/3p4/2P1P3/8/8/4K3 w - ");
        none("4k3/8/8/K2pP2q/8/8/8/8 w - ");
        none("4r1k1/8/8/3pP3/8/8/8/4K3 w - ");
        none("4k3/8/8/3pP3/8/8/r7/r3K3 w - ");
        none("6bk/8/8/3pP3/8/1K6/8/8 w - ");
        taken("4k3/8/8/3pP3/8/8/8/4K3 w - d6 0 1", "4k3/8/8/2Pp4/8/8/8/4K3 w - d6 0 1");
        taken("4k3/8/8/K1PpP2q/8/8/8/8 w - d6 0 1", "8/4r1k1/8/2PpP3/8/8/8/4K3 w - d6 0 1");
        taken("8/2r3k1/8/2PpP3/8/8/8/2K5 w - d6 0 1");
        Checks.says("when it is right: else it is FAULT 6 even so");
        fault(6, "4k3/8/8/8/8/8/8/4K3 w - d6 0 1", "4k3/3n4/8/3p4/8/8/8/4K3 w - d6 0 1");
    }

    private static void none(String begin) {
        for (String text : new String[] {begin + "d6 0 1", Mirror.text(begin + "d6 0 1")}) {
            KingsBoard board = Checks.set(text);
            Checks.due("PASSED of " + text, board.about(2), KingsBoard.NONE);
            Checks.due("written", Checks.written(board).split(" ")[3], "-");
        }
    }
}
