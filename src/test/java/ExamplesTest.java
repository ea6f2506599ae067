/** The calls that README.md shows, with the answers that it tells. */
public final class ExamplesTest {
    public static void main(String[] args) {
        Checks.says("README.md: a move and a search");
        KingsBoard board = new KingsBoard();
        Checks.due("play", board.play(12, 28, 0), 0);
        Checks.due("moves", board.moves(), 20);
        Checks.due("move", board.move(0, 1), 32);
        Checks.due("search", board.search(3), 24);
        Checks.due("chosen", board.chosen(0), 62);
        Checks.due("back", board.back(), 0);

        Checks.says("README.md: a position is typed, read and written");
        String text = "4k3/8/8/8/8/8/4P3/4K3 w - - 0 1";
        for (char c : text.toCharArray()) {
            board.type(c, 1);
        }
        Checks.due("read", board.read(), 0);
        Checks.due("place", board.place(), KingsBoard.NONE);
        int count = board.write();
        Checks.due("write", count, 31);
        for (int i = 0; i < count; i++) {
            Checks.due("written " + i, board.written(i), text.charAt(i));
        }
        Checks.finish();
    }
}
