/** Promise 1: a new object. Promises 7 and 8: man and about, with their wrong inputs. */
public final class BeginningTest {
    public static void main(String[] args) {
        newObject();
        everyMan();
        aboutEach();
        wrongInputs();
        Checks.finish();
    }

    private static void newObject() {
        KingsBoard board = new KingsBoard();
        Checks.due("place", board.place(), KingsBoard.NONE);
        Checks.dueThrow("written(0)", IndexOutOfBoundsException.class, () -> board.written(0));
        for (int what = 0; what < 3; what++) {
            Checks.due("chosen(" + what + ")", board.chosen(what), KingsBoard.NONE);
        }
        Checks.dueThrow("back", IllegalStateException.class, board::back);
        Checks.due("state", board.state(), 0);
        Checks.due("worth", board.worth(), 0);
        Checks.due("moves", board.moves(), 20);
        Checks.due("written", Checks.written(board), Checks.BEGINNING);
        Checks.due("typed", board.type('8', 1), 1);
    }

    private static void everyMan() {
        KingsBoard board = new KingsBoard();
        int[] officers = {4, 2, 3, 5, 6, 3, 2, 4};
        for (int square = 0; square < 64; square++) {
            int column = square % 8;
            int[] byRow = {officers[column], 1, 0, 0, 0, 0, -1, -officers[column]};
            Checks.due("man(" + square + ")", board.man(square), byRow[square / 8]);
        }
    }

    private static void aboutEach() {
        KingsBoard board = new KingsBoard();
        int[] beginning = {0, 15, -1, 0, 1, 0};
        for (int what = 0; what < 6; what++) {
            Checks.due("about(" + what + ")", board.about(what), beginning[what]);
        }
        KingsBoard later = Checks.set("4k3/8/8/8/3pP3/8/4r3/R3K3 w Q - 17 41");
        int[] due = {0, 2, -1, 17, 41, 1};
        for (int what = 0; what < 6; what++) {
            Checks.due("later about(" + what + ")", later.about(what), due[what]);
        }
        KingsBoard passed = Checks.set("4k3/8/8/8/3pP3/8/8/4K3 b - e3 0 9");
        Checks.due("side", passed.about(0), 1);
        Checks.due("passed", passed.about(2), Checks.at("e3"));
        Checks.due("check of the other side is none", passed.about(5), 0);
    }

    private static void wrongInputs() {
        KingsBoard board = new KingsBoard();
        for (int square : new int[] {-1, 64, Integer.MIN_VALUE, Integer.MAX_VALUE}) {
            Checks.dueThrow("man(" + square + ")", IndexOutOfBoundsException.class, () -> board.man(square));
        }
        for (int what : new int[] {-1, 6, Integer.MIN_VALUE, Integer.MAX_VALUE}) {
            Checks.dueThrow("about(" + what + ")", IllegalArgumentException.class, () -> board.about(what));
        }
    }
}
