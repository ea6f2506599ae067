/** Promises 13 and 14: play and back; HALVES and NUMBER. */
public final class PlayTest {
    private static final String[] LETTERS = {"", "P", "N", "B", "R", "Q"};

    public static void main(String[] args) {
        nothingTaken();
        taken();
        becomes();
        halves();
        number();
        beyond9999();
        back();
        backOfEachKind();
        goOnBehindBack();
        to512();
        wrongInputs();
        Checks.finish();
    }

    private static void play(String text, String moves, int taken, String behind) {
        KingsBoard board = Checks.set(text);
        Checks.due("taken by " + moves, Checks.play(board, moves), taken);
        Checks.due("behind " + moves, Checks.written(board), behind);
        int count = moves.split(" ").length;
        for (int left = count - 1; left >= 0; left--) {
            Checks.due("left", board.back(), left);
        }
        Checks.due("taken back", Checks.written(board), text);
    }

    private static void nothingTaken() {
        Checks.says("a move is made: .. or 0");
        play("4k3/8/8/8/8/8/8/4K2n w - - 5 7", "e1f1", 0, "4k3/8/8/8/8/8/8/5K1n b - - 6 7");
        play("4k3/8/8/8/8/8/8/4K2n b - - 5 7", "h1g3", 0, "4k3/8/8/8/8/6n1/8/4K3 w - - 6 8");
        play(Checks.BEGINNING, "e2e4", 0, "rnbqkbnr/pppppppp/8/8/4P3/8/PPPP1PPP/RNBQKBNR b KQkq - 0 1");
    }

    private static void taken() {
        Checks.says("the man taken by it (as told before: those of BLACK are less than 0)");
        for (int man = 1; man <= 5; man++) {
            String text = "k7/8/8/3" + LETTERS[man].toLowerCase() + "4/8/8/8/3R2K1 w - - 5 7";
            play(text, "d1d5", -man, "k7/8/8/3R4/8/8/8/6K1 b - - 0 7");
            String black = "3r2k1/8/8/8/3" + LETTERS[man] + "4/8/8/K7 b - - 5 7";
            play(black, "d8d4", man, "6k1/8/8/8/3r4/8/8/K7 w - - 0 8");
        }
        play("4k3/8/8/3pP3/8/8/8/4K3 w - d6 0 1", "e5d6", -1, "4k3/8/3P4/8/8/8/8/4K3 b - - 0 1");
        play("4k3/8/8/8/3pP3/8/8/4K3 b - e3 0 1", "d4e3", 1, "4k3/8/8/8/8/4p3/8/4K3 w - - 0 2");
    }

    private static void becomes() {
        Checks.says("play(from, to, becomes): the pawn becomes what is told");
        String text = "1n5k/P7/8/8/8/8/8/7K w - - 9 1";
        String black = "7k/8/8/8/8/8/p7/1N5K b - - 9 1";
        for (int man = 2; man <= 5; man++) {
            play(text, "a7a8=" + man, 0, LETTERS[man] + "n5k/8/8/8/8/8/8/7K b - - 0 1");
            play(text, "a7b8=" + man, -2, "1" + LETTERS[man] + "5k/8/8/8/8/8/8/7K b - - 0 1");
            String letter = LETTERS[man].toLowerCase();
            play(black, "a2a1=" + man, 0, "7k/8/8/8/8/8/8/" + letter + "N5K w - - 0 2");
            play(black, "a2b1=" + man, 2, "7k/8/8/8/8/8/8/1" + letter + "5K w - - 0 2");
        }
        Checks.says("IllegalStateException: there is no legal move as told (other becomes)");
        KingsBoard board = Checks.set(text);
        for (int man : new int[] {0, 1, 6, 7, 8, -1, -5, 5 + 8, Integer.MIN_VALUE, Integer.MAX_VALUE}) {
            Checks.dueThrow("becomes " + man, IllegalStateException.class,
                    () -> board.play(Checks.at("a7"), Checks.at("a8"), man));
        }
        KingsBoard beginning = new KingsBoard();
        for (int man : new int[] {1, 2, 3, 4, 5, 6, 8, 512, -1}) {
            Checks.dueThrow("no pawn of the last rank becomes " + man, IllegalStateException.class,
                    () -> beginning.play(Checks.at("e2"), Checks.at("e4"), man));
        }
        Checks.due("nothing has changed", Checks.written(board), text);
    }

    private static void halves(String text, String move, int due) {
        KingsBoard board = Checks.set(text);
        Checks.play(board, move);
        Checks.due("HALVES behind " + move + " in " + text, board.about(3), due);
        KingsBoard other = Checks.set(Mirror.text(text));
        Checks.play(other, Mirror.moves(move));
        Checks.due("HALVES behind the mirror of " + move + " in " + text, other.about(3), due);
    }

    private static void halves() {
        Checks.says("the HALVES (moves of either side since a pawn moved or a man was taken)");
        String text = "r3k2r/1P6/2n5/3pP3/8/8/P7/R3K2R w KQkq d6 20 30";
        for (String move : new String[] {"e1e2", "e1g1", "e1c1", "h1h7", "a1b1"}) {
            halves(text, move, 21);
        }
        for (String move : new String[] {"a2a3", "a2a4", "e5e6", "e5d6", "b7b8=5", "b7a8=2", "h1h8"}) {
            halves(text, move, 0);
        }
        halves(text, "e1e2 e8e7", 22);
        halves(text, "e1e2 e8e7 e2e1", 23);
        halves(text, "h1h8 e8e7", 1);
        halves(text, "a2a3 e8e7 e1e2", 2);
        halves("4k3/8/8/8/8/8/4P3/4K3 w - - 99 90", "e1d1", 100);
        halves("4k3/8/8/8/8/8/4P3/4K3 w - - 0 90", "e1d1", 1);
    }

    private static void number() {
        Checks.says("the NUMBER of the move (it grows behind BLACK's moves)");
        KingsBoard board = new KingsBoard();
        Checks.due("in the beginning", board.about(4), 1);
        String[] moves = {"e2e4", "e7e5", "g1f3", "b8c6", "f1b5", "c6d4", "e1g1", "d4b5"};
        for (int k = 0; k < moves.length; k++) {
            Checks.play(board, moves[k]);
            Checks.due("behind " + moves[k], board.about(4), 1 + (k + 1) / 2);
            Checks.due("the side to move", board.about(0), (k + 1) % 2);
        }
        for (int k = moves.length - 1; k >= 0; k--) {
            board.back();
            Checks.due("taken back " + moves[k], board.about(4), 1 + k / 2);
            Checks.due("the side to move", board.about(0), k % 2);
        }
    }

    private static void beyond9999() {
        Checks.says("a POSITION's own HALVES and NUMBER may grow beyond 9999");
        KingsBoard board = Checks.set("4k3/8/8/8/8/8/4P3/4K3 w - - 9998 9998");
        int[] halves = {9999, 10000, 10001, 10002};
        int[] numbers = {9998, 9999, 9999, 10000};
        String[] moves = {"e1d1", "e8d8", "d1e1", "d8e8"};
        for (int k = 0; k < 4; k++) {
            Checks.play(board, moves[k]);
            Checks.due("HALVES", board.about(3), halves[k]);
            Checks.due("NUMBER", board.about(4), numbers[k]);
        }
        Checks.play(board, "e2e3");
        Checks.due("and to 0 again", board.about(3), 0);
        board.back();
        Checks.due("HALVES taken back", board.about(3), 10002);
        Checks.due("NUMBER taken back", board.about(4), 10000);
    }

    private static void back() {
        Checks.says("the latest move is taken back: how many are left");
        KingsBoard board = new KingsBoard();
        Checks.play(board, "e2e4 e7e5 g1f3");
        Checks.due("two left", board.back(), 2);
        Checks.due("the position", Checks.written(board),
                "rnbqkbnr/pppp1ppp/8/4p3/4P3/8/PPPP1PPP/RNBQKBNR w KQkq - 0 2");
        Checks.due("one left", board.back(), 1);
        Checks.due("none left", board.back(), 0);
        Checks.due("the beginning", Checks.written(board), Checks.BEGINNING);
        Checks.says("IllegalStateException: none to take back");
        Checks.dueThrow("back", IllegalStateException.class, board::back);
        Checks.due("the beginning", Checks.written(board), Checks.BEGINNING);
        Checks.due("a move can be made then", Checks.play(board, "e2e4"), 0);
        Checks.due("and taken back", board.back(), 0);
    }

    private static void backOfEachKind() {
        Checks.says("taken back: men, side, RIGHTS, PASSED square, HALVES and NUMBER are as before");
        String white = "r3k2r/1P6/2n5/3pP3/8/8/P5p1/R3K2R w KQkq d6 20 30";
        String[] texts = {white, Mirror.text(white), "4k3/8/8/8/8/2b5/3p4/4K2R w - - 0 1"};
        for (String text : texts) {
            KingsBoard board = Checks.set(text);
            String[] moves = Checks.moves(board).split(" ");
            for (String move : moves) {
                KingsBoard each = Checks.set(text);
                Checks.play(each, move);
                Checks.due("changed by " + move, Checks.written(each).equals(text), false);
                Checks.due("left", each.back(), 0);
                Checks.due("taken back " + move, Checks.written(each), text);
            }
        }
    }

    private static void goOnBehindBack() {
        Checks.says("taken back: another move may be made then, and taken back in its turn");
        KingsBoard board = new KingsBoard();
        Checks.play(board, "e2e4 e7e5");
        board.back();
        Checks.play(board, "c7c5 g1f3");
        Checks.due("two left", board.back(), 2);
        Checks.due("the other line", Checks.written(board),
                "rnbqkbnr/pp1ppppp/8/2p5/4P3/8/PPPP1PPP/RNBQKBNR w KQkq - 0 2");
        Checks.due("one left", board.back(), 1);
        Checks.due("one move on", Checks.written(board),
                "rnbqkbnr/pppppppp/8/8/4P3/8/PPPP1PPP/RNBQKBNR b KQkq - 0 1");
    }

    private static void to512() {
        Checks.says("an object is used for at most 512 calls");
        KingsBoard board = new KingsBoard();
        for (int k = 0; k < 508; k += 4) {
            Checks.play(board, "g1f3 g8f6 f3g1 f6g8");
        }
        Checks.due("call 509", board.about(3), 508);
        Checks.due("call 510", board.state(), 3);
        Checks.due("call 511", Checks.play(board, "e2e4"), 0);
        Checks.due("call 512", board.back(), 508);
        KingsBoard other = new KingsBoard();
        for (int k = 0; k < 256; k += 4) {
            Checks.play(other, "g1f3 g8f6 f3g1 f6g8");
        }
        for (int left = 255; left >= 0; left--) {
            Checks.due("left", other.back(), left);
        }
    }

    private static void wrongInputs() {
        Checks.says("play: IndexOutOfBoundsException (squares); IllegalStateException");
        KingsBoard board = new KingsBoard();
        for (int square : new int[] {-1, 64, 64 + 12, Integer.MIN_VALUE, Integer.MAX_VALUE}) {
            Checks.dueThrow("from " + square, IndexOutOfBoundsException.class, () -> board.play(square, 28, 0));
            Checks.dueThrow("to " + square, IndexOutOfBoundsException.class, () -> board.play(12, square, 9));
            Checks.dueThrow("no man there, to " + square, IndexOutOfBoundsException.class,
                    () -> board.play(30, square, 0));
        }
        for (String move : new String[] {"e2e5", "e7e5", "e4e5", "e1e2", "e1g1", "a1a3", "e2e2", "d1d3", "g1e2"}) {
            Checks.dueThrow(move, IllegalStateException.class, () -> Checks.play(board, move));
        }
        Checks.due("nothing has changed", Checks.written(board), Checks.BEGINNING);
        Checks.dueThrow("nothing to take back", IllegalStateException.class, board::back);
    }
}
