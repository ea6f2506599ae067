/** Promise 1: a new object. Promises 7 and 8: man and about, with their wrong inputs. */
public final class BeginningTest {
    public static void main(String[] args) {
        everyMan();
        aboutTheBeginning();
        nothingYet();
        man();
        aboutEach();
        check();
        wrongInputs();
        Checks.finish();
    }

    private static void everyMan() {
        Checks.says("pawns on rank 1, rook, knight, bishop, queen, king, bishop, knight, rook on rank 0 of both");
        KingsBoard board = new KingsBoard();
        int[] officers = {4, 2, 3, 5, 6, 3, 2, 4};
        for (int square = 0; square < 64; square++) {
            int column = square % 8;
            int[] byRow = {officers[column], 1, 0, 0, 0, 0, -1, -officers[column]};
            Checks.due("man(" + square + ")", board.man(square), byRow[square / 8]);
        }
    }

    private static void aboutTheBeginning() {
        Checks.says("WHITE to move, all RIGHTS, NUMBER 1");
        KingsBoard board = new KingsBoard();
        int[] due = {0, 15, KingsBoard.NONE, 0, 1, 0};
        for (int what = 0; what < 6; what++) {
            Checks.due("about(" + what + ")", board.about(what), due[what]);
        }
        Checks.due("state", board.state(), 0);
        Checks.due("moves", board.moves(), 20);
        Checks.due("written", Checks.written(board), Checks.BEGINNING);
    }

    private static void nothingYet() {
        Checks.says("no characters are typed");
        Checks.due("the first one", new KingsBoard().type('8', 1), 1);
        KingsBoard reader = new KingsBoard();
        Checks.due("read", reader.read(), 1);
        Checks.due("place", reader.place(), 0);
        Checks.says("nothing was written");
        Checks.dueThrow("written(0)", IndexOutOfBoundsException.class, () -> new KingsBoard().written(0));
        Checks.says("nothing was searched");
        KingsBoard board = new KingsBoard();
        for (int what = 0; what < 3; what++) {
            Checks.due("chosen(" + what + ")", board.chosen(what), KingsBoard.NONE);
        }
        Checks.says("a new object: nothing was read, nothing can be taken back");
        Checks.due("place", board.place(), KingsBoard.NONE);
        Checks.dueThrow("back", IllegalStateException.class, board::back);
    }

    private static void man() {
        Checks.says("man: the man on a square (those of BLACK less than 0; 0 is none)");
        KingsBoard board = Checks.set("r1n1k2b/8/8/pP6/8/8/8/R2QK2N w - - 0 1");
        String[] squares = {"a8", "b8", "c8", "e8", "h8", "a5", "b5", "a1", "d1", "e1", "h1", "h2"};
        int[] due = {-4, 0, -2, -6, -3, -1, 1, 4, 5, 6, 2, 0};
        for (int k = 0; k < squares.length; k++) {
            Checks.due(squares[k], board.man(Checks.at(squares[k])), due[k]);
        }
    }

    private static void aboutEach() {
        Checks.says("about: the side to MOVE (0), RIGHTS (1), the PASSED square (2), HALVES (3), NUMBER (4), check (5)");
        KingsBoard later = Checks.set("4k3/8/8/8/3pP3/8/4r3/R3K3 w Q - 17 41");
        int[] due = {0, 2, KingsBoard.NONE, 17, 41, 1};
        for (int what = 0; what < 6; what++) {
            Checks.due("later about(" + what + ")", later.about(what), due[what]);
        }
        KingsBoard passed = Checks.set("4k3/8/8/8/3pP3/8/8/4K3 b - e3 0 9");
        Checks.due("side", passed.about(0), 1);
        Checks.due("passed", passed.about(2), Checks.at("e3"));
        KingsBoard great = Checks.set("r3k3/8/8/8/8/8/8/4K2R b Kq - 9999 9999");
        int[] greatDue = {1, 9, KingsBoard.NONE, 9999, 9999, 0};
        for (int what = 0; what < 6; what++) {
            Checks.due("great about(" + what + ")", great.about(what), greatDue[what]);
        }
    }

    private static void check() {
        Checks.says("about(5): 1 for check, else 0 (of the side to move)");
        KingsBoard board = new KingsBoard();
        Checks.play(board, "e2e4 f7f6 d1h5");
        Checks.due("BLACK is in check", board.about(5), 1);
        Checks.play(board, "g7g6");
        Checks.due("WHITE to move, and nobody is", board.about(5), 0);
        board.back();
        Checks.due("taken back", board.about(5), 1);
        Checks.due("in mate too", Checks.set("R5k1/5ppp/8/8/8/8/8/6K1 b - - 0 1").about(5), 1);
        Checks.due("not in stale", Checks.set("7k/5Q2/6K1/8/8/8/8/8 b - - 0 1").about(5), 0);
    }

    private static void wrongInputs() {
        Checks.says("man: IndexOutOfBoundsException; about: IllegalArgumentException: another what");
        KingsBoard board = new KingsBoard();
        for (int square : new int[] {-1, 64, Integer.MIN_VALUE, Integer.MAX_VALUE}) {
            Checks.dueThrow("man(" + square + ")", IndexOutOfBoundsException.class, () -> board.man(square));
        }
        for (int what : new int[] {-1, 6, Integer.MIN_VALUE, Integer.MAX_VALUE}) {
            Checks.dueThrow("about(" + what + ")", IllegalArgumentException.class, () -> board.about(what));
        }
    }
}
