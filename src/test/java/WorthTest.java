/** Promise 16: worth. */
public final class WorthTest {
    public static void main(String[] args) {
        Checks.due("the beginning", new KingsBoard().worth(), 0);
        // Kings in the corners are worth 0.
        worth("P", "a2", 100 + 4 + 0);
        worth("P", "e4", 100 + 12 + 6);
        worth("P", "h7", 100 + 24 + 0);
        worth("P", "c6", 100 + 20 + 4);
        worth("N", "b1", 320 + 6);
        worth("N", "d4", 320 + 36);
        worth("N", "f7", 320 + 18);
        worth("B", "b8", 330 + 4);
        worth("B", "c3", 330 + 16);
        worth("R", "d4", 500);
        worth("R", "b7", 520);
        worth("R", "b2", 500);
        worth("Q", "g5", 900 + 8);
        worth("Q", "g1", 900 + 2);
        kings();
        sideToMove();
        Checks.finish();
    }

    /** A man alone beside kings that are worth 0, and the same for BLACK. */
    private static void worth(String letter, String square, int due) {
        Checks.due(letter + " on " + square, alone(letter, square, true).worth(), due);
        Checks.due("BLACK's " + letter + " on " + square, alone(letter, square, false).worth(), due);
    }

    private static KingsBoard alone(String letter, String name, boolean isWhite) {
        int square = Checks.at(name);
        KingsBoard board = new KingsBoard();
        String[] corners = {"a1", "h8", "a1", "a8", "h1", "h8", "h1", "a8", "a8", "h1", "h8", "a1"};
        for (int k = 0; k < corners.length; k += 2) {
            PlainBoard plain = new PlainBoard();
            plain.mover = isWhite ? 0 : 1;
            plain.men[Checks.at(corners[k])] = 6;
            plain.men[Checks.at(corners[k + 1])] = -6;
            int man = "?PNBRQK".indexOf(letter);
            plain.men[isWhite ? square : square ^ 56] = isWhite ? man : -man;
            if (Checks.read(board, plain.written()) == 0) {
                return board;
            }
        }
        Checks.due("there is a corner for the kings of " + letter + name, 0, 1);
        return board;
    }

    private static void kings() {
        Checks.due("king on d4", Checks.set("k7/8/8/8/3K4/8/8/8 w - - 0 1").worth(), -18);
        Checks.due("king on e1", Checks.set("k7/8/8/8/8/8/8/4K3 w - - 0 1").worth(), -9);
        Checks.due("the other one's", Checks.set("4k3/8/8/8/8/8/8/K7 w - - 0 1").worth(), 9);
    }

    private static void sideToMove() {
        String men = "4k3/pp6/2n5/8/8/3B4/PPP5/4K3 ";
        int white = 104 + 106 + 108 + 330 + 4 * 5 - 9 - (104 + 106 + 320 + 6 * 4 - 9);
        Checks.due("white", Checks.set(men + "w - - 0 1").worth(), white);
        Checks.due("black", Checks.set(men + "b - - 0 1").worth(), -white);
        Checks.due("mate is not looked at", Checks.set("R5k1/5ppp/8/8/8/8/8/6K1 b - - 0 1").worth(),
                108 + 106 + 104 - 3 - (500 - 3));
    }
}
