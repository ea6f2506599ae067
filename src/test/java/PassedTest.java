/** The PASSED square: when there is one behind a move, and how a pawn is taken by it. */
public final class PassedTest {
    public static void main(String[] args) {
        behindTwo();
        onlyIfTaken();
        onlyIfLegal();
        notRoundTheEdge();
        otherMoves();
        takes();
        onlyPawns();
        legalBehindIt();
        Checks.finish();
    }

    /** The PASSED square behind moves, or none, for the two sides. */
    private static void passed(String text, String moves, String due) {
        KingsBoard board = Checks.set(text);
        Checks.play(board, moves);
        Checks.due("PASSED behind " + moves + " in " + text, Checks.name(board.about(2)), due);
        KingsBoard other = Checks.set(Mirror.text(text));
        Checks.play(other, Mirror.moves(moves));
        Checks.due("PASSED behind the mirror of " + moves + " in " + text, Checks.name(other.about(2)),
                due.equals("none") ? due : Mirror.square(due));
    }

    private static void behindTwo() {
        Checks.says("behind a pawn's move by two the square that it passed is the PASSED one");
        for (char c = 'a'; c <= 'h'; c++) {
            int column = c - 'a';
            for (int beside = column - 1; beside <= column + 1; beside += 2) {
                if (beside < 0 || beside > 7) {
                    continue;
                }
                PlainBoard plain = new PlainBoard();
                plain.men[8 + column] = 1;
                plain.men[24 + beside] = -1;
                plain.men[column < 4 ? 6 : 1] = 6;
                plain.men[column < 4 ? 62 : 57] = -6;
                passed(plain.written(), c + "2" + c + "4", c + "3");
                passed(plain.written(), c + "2" + c + "3", "none");
            }
        }
    }

    private static void onlyIfTaken() {
        Checks.says("but only if the other side then has a move that takes it so");
        passed("4k3/8/8/8/8/8/3P4/4K3 w - - 0 1", "d2d4", "none");
        passed("4k3/8/8/8/1p3p2/8/3P4/4K3 w - - 0 1", "d2d4", "none");
        passed("4k3/8/8/2p1p3/8/8/3P4/4K3 w - - 0 1", "d2d4", "none");
        passed("4k3/8/8/8/8/2p1p3/3P4/4K3 w - - 0 1", "d2d4", "none");
        passed("4k3/8/8/8/2n1b3/8/3P4/6K1 w - - 0 1", "d2d4", "none");
        passed("8/8/8/8/2q1k3/8/3P4/6K1 w - - 0 1", "d2d4", "none");
        passed("4k3/8/8/8/2P1P3/8/3P4/4K3 w - - 0 1", "d2d4", "none");
        passed("4k3/8/8/8/2pPp3/8/5P2/4K3 w - - 0 1", "f2f4", "f3");
        passed("4k3/8/8/8/2p1p3/8/3P4/4K3 w - - 0 1", "d2d4", "d3");
    }

    private static void onlyIfLegal() {
        Checks.says("a legal move that takes it so: the pawn may not leave its column");
        passed("4k3/8/8/8/4p3/8/3P4/K3R3 w - - 0 1", "d2d4", "none");
        passed("2k5/8/8/8/2p5/8/3P4/K1R5 w - - 0 1", "d2d4", "none");
        Checks.says("a legal move that takes it so: one of two pawns is enough");
        passed("4k3/8/8/8/2p1p3/8/3P4/K3R3 w - - 0 1", "d2d4", "d3");
        passed("2k5/8/8/8/2p1p3/8/3P4/K1R5 w - - 0 1", "d2d4", "d3");
        Checks.says("a legal move that takes it so: two men leave the row at once");
        passed("8/8/8/8/R3p2k/8/3P4/K7 w - - 0 1", "d2d4", "none");
        passed("8/8/8/8/k3p2Q/8/3P4/K7 w - - 0 1", "d2d4", "none");
        passed("8/8/8/8/R1n1p2k/8/3P4/K7 w - - 0 1", "d2d4", "d3");
        passed("8/8/8/8/R1p1p2k/8/3P4/K7 w - - 0 1", "d2d4", "d3");
        passed("8/8/8/8/B3p2k/8/3P4/K7 w - - 0 1", "d2d4", "d3");
        Checks.says("a legal move that takes it so: along the line of the pin it may go");
        passed("8/8/6k1/8/4p3/8/2BP4/K7 w - - 0 1", "d2d4", "d3");
        passed("8/1k6/8/8/4p3/5B2/3P4/K7 w - - 0 1", "d2d4", "none");
        Checks.says("a legal move that takes it so: a check by the pawn itself ends with it");
        passed("8/8/8/2k5/4p3/8/3P4/K7 w - - 0 1", "d2d4", "d3");
        Checks.says("a legal move that takes it so: a check that was opened does not end with it");
        passed("8/8/8/8/4p3/8/R2P2k1/K7 w - - 0 1", "d2d4", "none");
        passed("8/8/8/8/4p3/8/3P2k1/KR6 w - - 0 1", "d2d4", "d3");
        passed("8/8/8/8/k3p3/8/3P4/4B2K w - - 0 1", "d2d4", "d3");
        passed("8/8/8/k7/4p3/8/3P4/4B2K w - - 0 1", "d2d4", "none");
        passed("8/8/8/6k1/4p3/8/3P4/2B4K w - - 0 1", "d2d4", "none");
    }

    private static void notRoundTheEdge() {
        Checks.says("the PASSED square: not round the edge");
        for (String row : new String[] {"p7/8/8", "8/p7/8", "8/8/p7"}) {
            passed("4k3/8/8/" + row + "/7P/4K3 w - - 0 1", "h2h4", "none");
        }
        for (String row : new String[] {"7p/8/8", "8/7p/8", "8/8/7p"}) {
            passed("4k3/8/8/" + row + "/P7/4K3 w - - 0 1", "a2a4", "none");
        }
        Checks.legal("4k3/8/8/p6P/1P6/8/8/4K3 w - - 0 1", "h5a6", false);
        Checks.legal("4k3/8/8/pP5P/8/8/8/4K3 w - a6 0 1", "h5a6", false);
        Checks.legal("4k3/8/8/pP5P/7P/8/8/4K3 w - a6 0 1", "h4a6", false);
        Checks.legal("4k3/8/8/pP5P/8/8/8/4K3 w - a6 0 1", "b5a6", true);
        Checks.legal("4k3/8/P7/6Pp/8/8/8/4K3 w - h6 0 1", "g5h6", true);
    }

    private static void otherMoves() {
        Checks.says("else, and behind all other moves, there is none");
        String text = "4k3/8/8/8/2p1p3/8/3P4/R3K3 w Q - 0 1";
        passed(text, "d2d4 e8e7", "none");
        passed(text, "d2d4 e4d3", "none");
        passed(text, "d2d4 c4d3", "none");
        passed(text, "d2d4 e4e3", "none");
        passed(text, "d2d3", "none");
        passed(text, "e1c1", "none");
        passed("4k3/8/8/8/2p1p3/8/3R4/4K3 w - - 0 1", "d2d4", "none");
        passed("4k3/8/8/8/2p1p3/8/3Q4/4K3 w - - 0 1", "d2d4", "none");
        passed("4k3/2p5/8/3P4/2p1p3/8/3P4/4K3 w - - 0 1", "d2d4 c7c5", "c6");
        passed("4k3/2p5/8/8/2p1p3/8/3P4/4K3 w - - 0 1", "d2d4 c7c5", "none");
        KingsBoard board = Checks.set(text);
        Checks.play(board, "d2d4 e8e7");
        Checks.dueThrow("too late", IllegalStateException.class, () -> Checks.play(board, "e4d3"));
        board.back();
        Checks.due("taken back", Checks.name(board.about(2)), "d3");
        Checks.due("now it may", Checks.play(board, "e4d3"), 1);
    }

    private static void takes() {
        Checks.says("then the pawn of the other side that is one down from that is taken");
        String text = "4k3/8/8/2PpP3/8/8/8/4K3 w - d6 5 1";
        for (String from : new String[] {"c5", "e5"}) {
            KingsBoard board = Checks.set(text);
            Checks.due("taken", Checks.play(board, from + "d6"), -1);
            Checks.due("where it stood", board.man(Checks.at("d5")), 0);
            Checks.due("where it is taken", board.man(Checks.at("d6")), 1);
            Checks.due("from where", board.man(Checks.at(from)), 0);
            Checks.due("HALVES", board.about(3), 0);
            board.back();
            Checks.due("taken back", Checks.written(board), text);
            KingsBoard black = Checks.set(Mirror.text(text));
            Checks.due("taken by BLACK", Checks.play(black, Mirror.moves(from + "d6")), 1);
            Checks.due("where it stood", black.man(Checks.at("d4")), 0);
            Checks.due("where it is taken", black.man(Checks.at("d3")), -1);
            black.back();
            Checks.due("taken back", Checks.written(black), Mirror.text(text));
        }
    }

    private static void onlyPawns() {
        Checks.says("a pawn goes so: other men that come to the PASSED square take nothing");
        String text = "7k/8/8/1N1pP3/8/8/8/4K3 w - d6 0 1";
        KingsBoard board = Checks.set(text);
        Checks.due("a knight", Checks.play(board, "b5d6"), 0);
        Checks.due("the pawn stands", board.man(Checks.at("d5")), -1);
        Checks.legal("4k3/8/8/2PpP3/8/8/8/4K3 w - - 0 1", "e5d6", false);
        Checks.legal("4k3/8/8/2PpP3/8/8/8/4K3 w - - 0 1", "c5d6", false);
        Checks.legal("4k3/8/8/3pP3/2P5/8/8/4K3 w - d6 0 1", "c4d6", false);
        Checks.legal("4k3/8/8/3pP3/2P5/8/8/4K3 w - d6 0 1", "e5f6", false);
    }

    private static void legalBehindIt() {
        Checks.says("LEGAL: its side is not in check behind it, when two men have left");
        Checks.legal("8/8/8/K1PpP2q/8/8/8/7k w - d6 0 1", "e5d6", true);
        Checks.legal("8/8/8/K1PpP2q/8/8/8/7k w - d6 0 1", "c5d6", true);
        Checks.legal("8/8/8/K2pP2q/8/8/8/7k w - d6 0 1", "e5d6", false);
        Checks.legal("8/8/8/3pP3/4K3/8/8/7k w - d6 0 1", "e5d6", true);
        Checks.legal("8/8/8/3pP3/4K3/8/P7/7k w - d6 0 1", "a2a3", false);
        Checks.legal("6bk/8/8/3pP3/8/1K6/8/8 w - d6 0 1", "e5d6", false);
        Checks.legal("6bk/8/8/2pP4/8/1K6/8/8 w - c6 0 1", "d5c6", false);
        Checks.legal("b6k/8/8/2pP4/8/5K2/8/8 w - c6 0 1", "d5c6", true);
        Checks.says("LEGAL: a check along the PASSED square may be met on it");
        Checks.legal("7k/8/r4K2/2pP4/8/8/8/8 w - - 0 1", "d5c6", false);
        Checks.legal("7k/8/r4K2/2pP4/8/8/8/8 w - c6 0 1", "d5c6", true);
        Checks.legal("7k/8/5K1r/2pP4/8/8/8/8 w - c6 0 1", "d5c6", false);
    }
}
