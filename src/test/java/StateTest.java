/** STATES, and promise 9: state. */
public final class StateTest {
    private static final String SHUFFLE = "e1d1 e8d8 d1e1 d8e8";

    public static void main(String[] args) {
        mate();
        stale();
        fifty();
        thrice();
        sinceItWasSet();
        takenBack();
        sameMen();
        sameSide();
        sameRights();
        samePassed();
        otherCounters();
        bare();
        otherwise();
        least();
        oneMayGoOn();
        Checks.finish();
    }

    private static void state(int due, String... texts) {
        for (String text : texts) {
            Checks.due("state of " + text, Checks.set(text).state(), due);
            Checks.due("state of the mirror of " + text, Checks.set(Mirror.text(text)).state(), due);
        }
    }

    private static void mate() {
        Checks.says("1 MATE: there is no legal move, and the side to move is in check");
        state(1, "rnb1kbnr/pppp1ppp/8/4p3/6Pq/5P2/PPPPP2P/RNBQKBNR w KQkq - 1 3");
        state(1, "R5k1/5ppp/8/8/8/8/8/6K1 b - - 0 1", "6rk/5Npp/8/8/8/8/8/6K1 b - - 0 1");
        state(0, "R5k1/5pp1/7p/8/8/8/8/6K1 b - - 0 1", "R5k1/r4ppp/8/8/8/8/8/6K1 b - - 0 1");
        state(0, "R5k1/3r1ppp/8/8/8/8/8/6K1 b - - 0 1", "6rk/6pp/8/8/8/8/8/6K1 w - - 0 1");
        // The pawn that gives check is taken by the PASSED square, which is the only legal move.
        state(0, "8/8/8/r2pP3/2K5/r7/1r6/3r3k w - d6 0 1");
        state(1, "8/8/8/r2pP3/2K5/r7/1r6/3r3k w - - 0 1");
    }

    private static void stale() {
        Checks.says("2 STALE: there is no legal move, and it isn't");
        state(2, "7k/5Q2/6K1/8/8/8/8/8 b - - 0 1", "8/8/8/8/8/5k2/5p2/5K2 w - - 0 1");
        state(2, "7k/5Q2/6K1/p7/P7/8/8/8 b - - 0 1");
        state(0, "7k/5Q2/6K1/p7/8/8/8/8 b - - 0 1", "7k/5Q2/6K1/8/8/8/8/8 w - - 0 1");
        state(0, "7k/4Q3/6K1/8/8/8/8/8 b - - 0 1");
    }

    private static void fifty() {
        Checks.says("3 FIFTY: the HALVES are 100 or more");
        state(0, "4k3/8/8/8/8/8/4P3/4K3 w - - 99 90", "4k3/8/8/8/8/8/4P3/4K3 w - - 0 90");
        state(3, "4k3/8/8/8/8/8/4P3/4K3 w - - 100 90", "4k3/8/8/8/8/8/4P3/4K3 w - - 101 90");
        state(3, "4k3/8/8/8/8/8/4P3/4K3 w - - 9999 90");
        KingsBoard board = Checks.set("4k3/8/8/8/8/8/4P3/4K3 w - - 99 90");
        Checks.play(board, "e1d1");
        Checks.due("a king's move", board.state(), 3);
        board.back();
        Checks.due("taken back", board.state(), 0);
        Checks.play(board, "e2e3");
        Checks.due("a pawn's move", board.state(), 0);
    }

    private static void thrice() {
        Checks.says("4 THRICE: .. stood here twice before");
        KingsBoard board = new KingsBoard();
        Checks.play(board, "g1f3 g8f6 f3g1 f6g8");
        Checks.due("once before", board.state(), 0);
        Checks.play(board, "g1f3 g8f6 f3g1");
        Checks.due("once before, one move on", board.state(), 0);
        Checks.play(board, "f6g8");
        Checks.due("twice before", board.state(), 4);
        Checks.play(board, "g1f3");
        Checks.due("another one twice before", board.state(), 4);
        Checks.play(board, "g8f6 f3g1 f6g8");
        Checks.due("three times before", board.state(), 4);
        Checks.play(board, "e2e4");
        Checks.due("never before", board.state(), 0);
        KingsBoard far = new KingsBoard();
        Checks.play(far, "g1f3 g8f6 f3g1 f6g8 b1c3 b8c6 c3b1 c6b8");
        Checks.due("twice before, with others between", far.state(), 4);
    }

    private static void sinceItWasSet() {
        Checks.says("4 THRICE: since the position was set");
        KingsBoard board = new KingsBoard();
        Checks.play(board, "g1f3 g8f6 f3g1 f6g8");
        Checks.due("read", Checks.read(board, Checks.BEGINNING), 0);
        Checks.play(board, "g1f3 g8f6 f3g1 f6g8");
        Checks.due("once since", board.state(), 0);
        Checks.due("a FAULT sets nothing", Checks.read(board, "8"), 1);
        Checks.due("nor does this one", Checks.read(board, "8/8/8/8/8/8/8/8 w - - 0 1"), 2);
        Checks.play(board, "g1f3 g8f6 f3g1 f6g8");
        Checks.due("twice since", board.state(), 4);
    }

    private static void takenBack() {
        Checks.says("4 THRICE: (positions that were taken back did not)");
        KingsBoard board = new KingsBoard();
        Checks.play(board, "g1f3 g8f6 f3g1 f6g8 g1f3 g8f6 f3g1 f6g8");
        Checks.due("twice before", board.state(), 4);
        board.back();
        Checks.due("taken back", board.state(), 0);
        Checks.play(board, "f6g8");
        Checks.due("as before", board.state(), 4);
        for (int k = 0; k < 5; k++) {
            board.back();
        }
        for (int k = 0; k < 3; k++) {
            Checks.play(board, "f6g8");
            Checks.due("once before, however often it is played", board.state(), 0);
            board.back();
        }
        Checks.play(board, "f6g8 g1f3 g8f6 f3g1 f6g8");
        Checks.due("twice before", board.state(), 4);
    }

    private static void sameMen() {
        Checks.says("4 THRICE: the same men");
        KingsBoard men = Checks.set("4k3/8/8/8/8/8/8/1N2K1N1 w - - 0 1");
        Checks.play(men, "b1c3 e8d8 g1f3 d8e8 f3d2 e8d8 d2b1 d8e8 c3d5 e8d8 d5f4 d8e8 f4h3 e8d8 h3g1 d8e8");
        Checks.due("once before: one knight is as good as the other", men.state(), 0);
        Checks.play(men, SHUFFLE);
        Checks.due("twice before", men.state(), 4);
        KingsBoard moved = Checks.set("4k3/8/8/8/8/8/8/1N2K1N1 w - - 0 1");
        Checks.play(moved, SHUFFLE + " e1d1 e8d8 d1e1 d8e7");
        Checks.due("a man elsewhere", moved.state(), 0);
        KingsBoard pawn = Checks.set("4k3/8/8/8/8/8/4P3/4K3 w - - 0 1");
        Checks.play(pawn, SHUFFLE + " e2e3 e8d8 e1d1 d8d7 d1e1 d7e8");
        Checks.due("a pawn elsewhere", pawn.state(), 0);
        KingsBoard taken = Checks.set("4k3/8/8/8/8/8/p7/R3K3 w - - 0 1");
        Checks.play(taken, "a1b1 e8d8 b1a1 d8e8 a1a2 e8d8 a2a1 d8e8");
        Checks.due("a man less than before", taken.state(), 0);
        Checks.play(taken, "a1a2 e8d8 a2a1 d8e8");
        Checks.due("once before since then", taken.state(), 0);
        Checks.play(taken, "a1a2 e8d8 a2a1 d8e8");
        Checks.due("twice before since then", taken.state(), 4);
    }

    private static void sameSide() {
        Checks.says("4 THRICE: the same side to move");
        KingsBoard side = Checks.set("4k3/p7/8/8/8/8/8/R3K3 w - - 0 1");
        Checks.play(side, "e1d1 e8d8 d1d2 d8e8 d2e1 e8d8 e1d1 d8e8 d1e1");
        Checks.due("the same men with the other side to move", side.state(), 0);
    }

    private static void sameRights() {
        Checks.says("4 THRICE: the same RIGHTS");
        KingsBoard rights = Checks.set("4k3/8/8/8/8/8/p7/4K2R w K - 0 1");
        Checks.play(rights, "h1h2 e8d8 h2h1 d8e8 h1h2 e8d8 h2h1 d8e8");
        Checks.due("a right less than in the beginning", rights.state(), 0);
        Checks.play(rights, "h1h2");
        Checks.due("all alike", rights.state(), 4);
        KingsBoard none = Checks.set("4k3/8/8/8/8/8/p7/4K2R w - - 0 1");
        Checks.play(none, "h1h2 e8d8 h2h1 d8e8 h1h2 e8d8 h2h1 d8e8");
        Checks.due("no right in the beginning", none.state(), 4);
    }

    private static void samePassed() {
        Checks.says("4 THRICE: the same PASSED square");
        KingsBoard passed = Checks.set("4k3/3p4/8/4P3/8/8/8/4K3 b - - 0 1");
        Checks.play(passed, "d7d5 e1d1 e8d8 d1e1 d8e8 e1d1 e8d8 d1e1 d8e8");
        Checks.due("the passed square was another", passed.state(), 0);
        Checks.play(passed, "e1d1");
        Checks.due("all alike again", passed.state(), 4);
        KingsBoard noPassed = Checks.set("4k3/3p4/8/7P/8/8/8/4K3 b - - 0 1");
        Checks.play(noPassed, "d7d5 e1d1 e8d8 d1e1 d8e8 e1d1 e8d8 d1e1 d8e8");
        Checks.due("there was none, since nobody could take", noPassed.state(), 4);
    }

    private static void otherCounters() {
        Checks.says("4 THRICE: HALVES and NUMBER may differ");
        KingsBoard set = Checks.set("4k3/8/8/8/8/8/4P3/4K3 w - - 7 77");
        Checks.play(set, SHUFFLE + " " + SHUFFLE);
        Checks.due("twice before", set.state(), 4);
    }

    private static void bare() {
        Checks.says("5 BARE: there are no men but kings");
        state(5, "4k3/8/8/8/8/8/8/4K3 w - - 0 1", "4k3/8/8/8/8/8/8/4K3 b - - 0 1");
        for (String man : new String[] {"P", "p", "R", "r", "Q", "q"}) {
            state(0, "6k1/8/8/8/8/" + man + "7/8/3K4 w - - 0 1");
        }
        Checks.says("5 BARE: or kings and one knight");
        state(5, "4k3/8/8/8/8/8/8/4K1N1 w - - 0 1", "4k1n1/8/8/8/8/8/8/4K3 w - - 0 1");
        state(0, "4k1n1/8/8/8/8/8/8/4K1N1 w - - 0 1", "4k3/8/8/8/8/8/8/4KNN1 w - - 0 1");
        state(0, "4k3/8/8/8/8/8/8/4K1BN w - - 0 1", "4k1b1/8/8/8/8/8/8/4K1N1 w - - 0 1", "4k3/8/8/8/8/8/p7/4K1N1 w - - 0 1");
        Checks.says("5 BARE: or kings and bishops that all stand on squares whose row and column together are even");
        state(5, "4k3/8/8/8/8/8/8/4K1B1 w - - 0 1", "4k3/8/8/8/8/6B1/7B/4K1B1 w - - 0 1");
        state(5, "5bk1/8/8/8/8/8/8/4K1B1 w - - 0 1", "b1b1k3/8/8/8/8/8/8/4KB1B w - - 0 1");
        Checks.says("5 BARE: or all odd");
        state(5, "4k3/8/8/8/8/8/8/4KB2 w - - 0 1", "2b1k3/8/8/8/8/8/8/4KB2 w - - 0 1");
        state(0, "4k3/8/8/8/8/8/8/4KBB1 w - - 0 1", "2b1k3/8/8/8/8/8/8/4K1B1 w - - 0 1");
        state(0, "4k3/8/8/8/8/6B1/7B/3BK1B1 w - - 0 1");
        bishopsOnEverySquare();
    }

    private static void bishopsOnEverySquare() {
        for (int first = 16; first < 48; first++) {
            PlainBoard plain = new PlainBoard();
            plain.men[4] = 6;
            plain.men[60] = -6;
            plain.men[first] = -3;
            plain.men[32 + (first & 7)] = 3;
            if (plain.inCheck(0) || plain.inCheck(1)) {
                continue;
            }
            boolean isAlike = (first / 8 + first % 8 + 4 + first % 8) % 2 == 0;
            Checks.due("state of " + plain.written(), Checks.set(plain.written()).state(), isAlike ? 5 : 0);
        }
    }

    private static void otherwise() {
        Checks.says("otherwise 0");
        Checks.due("the beginning", new KingsBoard().state(), 0);
        state(0, "4r2k/8/8/8/8/8/8/4K3 w - - 0 1");
    }

    private static void least() {
        Checks.says("of several it is the least");
        state(1, "R5k1/5ppp/8/8/8/8/8/6K1 b - - 100 60", "7k/7B/5BK1/8/8/8/8/8 b - - 100 1");
        state(2, "7k/5Q2/6K1/8/8/8/8/8 b - - 100 60", "8/8/8/8/8/6k1/7b/7K w - - 0 1", "8/8/8/8/8/6k1/7b/7K w - - 100 1");
        state(3, "4k3/8/8/8/8/8/8/4K3 w - - 100 60");
        state(5, "4k3/8/8/8/8/8/8/4K3 w - - 99 60");
        KingsBoard board = Checks.set("4k3/8/8/8/8/8/8/4K3 w - - 0 1");
        Checks.play(board, SHUFFLE + " e1d1 e8d8 d1e1");
        Checks.due("bare", board.state(), 5);
        Checks.play(board, "d8e8");
        Checks.due("thrice is less than bare", board.state(), 4);
        KingsBoard both = Checks.set("4k3/8/8/8/8/8/4P3/4K3 w - - 92 60");
        Checks.play(both, SHUFFLE + " " + SHUFFLE);
        Checks.due("fifty is less than thrice", both.state(), 3);
    }

    private static void oneMayGoOn() {
        Checks.says("(one may go on in all but 1 and 2)");
        KingsBoard fifty = Checks.set("4k3/8/8/8/8/8/4P3/4K3 w - - 100 1");
        Checks.due("moves in 3", fifty.moves(), 6);
        Checks.due("a move in 3", Checks.play(fifty, "e1d1"), 0);
        KingsBoard thrice = Checks.set("4k3/8/8/8/8/8/4P3/4K3 w - - 0 1");
        Checks.play(thrice, SHUFFLE + " " + SHUFFLE);
        Checks.due("moves in 4", thrice.moves(), 6);
        Checks.due("a move in 4", Checks.play(thrice, "e2e4"), 0);
        KingsBoard bare = Checks.set("4k3/8/8/8/8/8/8/4K3 w - - 0 1");
        Checks.due("moves in 5", bare.moves(), 5);
        Checks.due("a move in 5", Checks.play(bare, "e1e2"), 0);
        KingsBoard mate = Checks.set("R5k1/5ppp/8/8/8/8/8/6K1 b - - 0 1");
        Checks.due("no moves in 1", mate.moves(), 0);
        Checks.dueThrow("a move in 1", IllegalStateException.class, () -> Checks.play(mate, "g8h8"));
        KingsBoard stale = Checks.set("7k/5Q2/6K1/8/8/8/8/8 b - - 0 1");
        Checks.due("no moves in 2", stale.moves(), 0);
        Checks.dueThrow("a move in 2", IllegalStateException.class, () -> Checks.play(stale, "h8g8"));
    }
}
