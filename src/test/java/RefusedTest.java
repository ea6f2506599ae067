/**
 * Terms, exceptions: what is refused with which exception, that it changes nothing, and beside each
 * refused input the last one that is still taken.
 */
public final class RefusedTest {
    private static final int[] FAR = {Integer.MIN_VALUE, Integer.MIN_VALUE + 1, Integer.MAX_VALUE};
    private static final String MATE = "R5k1/5ppp/8/8/8/8/8/6K1 b - - 0 1";

    private static final Twins.Way NEW = board -> { };
    // Everything that a refused call could harm is there: moves to take back, a place, a choice, text.
    private static final Twins.Way BUSY = board -> {
        Checks.read(board, "r3k2r/pppp1ppp/8/8/4p3/8/PPPP1PPP/R3K2R w KQkq - 3 7");
        Checks.play(board, "e1g1 e8c8 g1h1 c8b8 h1g1 b8c8 g1h1 c8b8 h1g1 b8c8 d2d4");
        board.write();
        Checks.play(board, "c8b8");
        board.back();
        board.search(1);
        Checks.read(board, "8/8/9");
        Checks.type(board, "4k3/8/8/8/8/8/4P3/4K3 w - - 0 ");
    };
    private static final Twins.Way FULL = board -> {
        Checks.play(board, "e2e4");
        Checks.type(board, "A".repeat(128));
    };
    private static final Twins.Way MATED = board -> {
        Checks.read(board, MATE);
        board.write();
        board.search(2);
    };
    private static final Twins.Way[] WAYS = {NEW, BUSY, FULL, MATED};

    public static void main(String[] args) {
        typing();
        characters();
        squares();
        numbers();
        movesByNumber();
        moves();
        takingBack();
        firstNamed();
        Checks.finish();
    }

    private static void index(String what, Twins.Way call) {
        for (Twins.Way way : WAYS) {
            Twins.refused(what, IndexOutOfBoundsException.class, way, call);
        }
    }

    private static void argument(String what, Twins.Way call) {
        for (Twins.Way way : WAYS) {
            Twins.refused(what, IllegalArgumentException.class, way, call);
        }
    }

    private static void state(String what, Twins.Way way, Twins.Way call) {
        Twins.refused(what, IllegalStateException.class, way, call);
    }

    /** The two numbers just outside a range, and numbers far from it. */
    private static int[] outside(int first, int last) {
        return new int[] {first - 1, last + 1, FAR[0], FAR[1], FAR[2]};
    }

    private static void typing() {
        Checks.says("type: IllegalArgumentException: n is not 1 .. 8");
        for (int n : outside(1, 8)) {
            argument("type n " + n, board -> board.type(0x4141414141414141L, n));
        }
        for (int n = 1; n <= 8; n++) {
            Checks.due("type n " + n, new KingsBoard().type(0x4141414141414141L, n), n);
        }
        Checks.says("type: or one is not 32 .. 126");
        for (long character : new long[] {0, 31, 127, 128, 255}) {
            argument("type " + character, board -> board.type(character, 1));
            argument("type last " + character, board -> board.type(character << 56 | 0x41414141414141L, 8));
        }
        Checks.due("type 32", new KingsBoard().type(32, 1), 1);
        Checks.due("type 126", new KingsBoard().type(126, 1), 1);
        Checks.says("type: IllegalStateException: there would be more than 128");
        state("the 129th", FULL, board -> board.type('A', 1));
        state("eight more", FULL, board -> board.type(0x4141414141414141L, 8));
        Twins.Way almost = board -> Checks.type(board, "A".repeat(121));
        state("121 and 8", almost, board -> board.type(0x4141414141414141L, 8));
        Checks.due("121 and 7", Twins.after(almost).type(0x41414141414141L, 7), 128);
    }

    private static void characters() {
        Checks.says("written: IndexOutOfBoundsException: there is no such character");
        for (int i : outside(0, 999)) {
            index("written " + i, board -> board.written(i));
        }
        Twins.refused("written 0 of nothing", IndexOutOfBoundsException.class, NEW, board -> board.written(0));
        Twins.Way wrote = KingsBoard::write;
        int count = Checks.BEGINNING.length();
        Twins.refused("written behind the last", IndexOutOfBoundsException.class, wrote, board -> board.written(count));
        Checks.due("the first", Twins.after(wrote).written(0), 'r');
        Checks.due("the last", Twins.after(wrote).written(count - 1), '1');
    }

    private static void squares() {
        Checks.says("IndexOutOfBoundsException: there is no such square");
        for (int square : outside(0, 63)) {
            index("man " + square, board -> board.man(square));
            index("attacked " + square, board -> board.attacked(square, 0));
            index("play from " + square, board -> board.play(square, 28, 0));
            index("play to " + square, board -> board.play(12, square, 0));
        }
        KingsBoard board = new KingsBoard();
        Checks.due("man 0", board.man(0), 4);
        Checks.due("man 63", board.man(63), -4);
        Checks.due("attacked 0", board.attacked(0, 0), false);
        Checks.due("attacked 63", board.attacked(63, 1), false);
        KingsBoard corners = Checks.set("r3k3/8/8/8/8/8/8/4K2R w - - 0 1");
        Checks.due("play to 63", Checks.play(corners, "h1h8"), 0);
        Checks.due("play to 0, in check", corners.about(5), 1);
        Checks.play(corners, "e8e7");
        Checks.due("play from 63", Checks.play(corners, "h8a8"), -4);
        Checks.due("play to 0", Checks.play(Checks.set("r3k3/8/8/8/8/8/8/4K3 b - - 0 1"), "a8a1"), 0);
    }

    private static void numbers() {
        Checks.says("about: IllegalArgumentException: another what");
        for (int what : outside(0, 5)) {
            argument("about " + what, board -> board.about(what));
        }
        Checks.due("about 0", new KingsBoard().about(0), 0);
        Checks.due("about 5", new KingsBoard().about(5), 0);
        Checks.says("attacked: IllegalArgumentException: there is no such side");
        for (int side : outside(0, 1)) {
            argument("attacked by " + side, board -> board.attacked(16, side));
        }
        Checks.due("attacked by 0", new KingsBoard().attacked(16, 0), true);
        Checks.due("attacked by 1", new KingsBoard().attacked(16, 1), false);
        Checks.says("ways: IllegalArgumentException: depth is not 0 .. 3");
        for (int depth : outside(0, 3)) {
            argument("ways " + depth, board -> board.ways(depth));
        }
        Checks.due("ways 0", new KingsBoard().ways(0), 1);
        Checks.due("ways 3", new KingsBoard().ways(3), 8902);
        Checks.says("search: IllegalArgumentException: depth is not 1 .. 3");
        for (int depth : outside(1, 3)) {
            argument("search " + depth, board -> board.search(depth));
        }
        Checks.due("search 1", new KingsBoard().search(1), 18);
        Checks.due("search 3", new KingsBoard().search(3), 18);
        Checks.says("chosen: IllegalArgumentException: another what");
        for (int what : outside(0, 2)) {
            argument("chosen " + what, board -> board.chosen(what));
        }
        KingsBoard searched = Twins.after(board -> board.search(1));
        Checks.due("chosen 0", searched.chosen(0), Checks.at("b1"));
        Checks.due("chosen 2", searched.chosen(2), 0);
    }

    private static void movesByNumber() {
        Checks.says("move: IndexOutOfBoundsException: there is no such move");
        for (int i : outside(0, 999)) {
            index("move " + i, board -> board.move(i, 0));
        }
        Twins.refused("move 20 of 20", IndexOutOfBoundsException.class, NEW, board -> board.move(20, 0));
        Twins.refused("move 0 of none", IndexOutOfBoundsException.class, MATED, board -> board.move(0, 0));
        Checks.due("move 0", new KingsBoard().move(0, 0), Checks.at("b1"));
        Checks.due("move 19", new KingsBoard().move(19, 0), Checks.at("h2"));
        Checks.says("move: IllegalArgumentException: another what");
        for (int what : outside(0, 2)) {
            Twins.refused("move what " + what, IllegalArgumentException.class, NEW, board -> board.move(19, what));
            Twins.refused("move what " + what, IllegalArgumentException.class, BUSY, board -> board.move(0, what));
        }
        Checks.due("move what 1", new KingsBoard().move(19, 1), Checks.at("h4"));
        Checks.due("move what 2", new KingsBoard().move(19, 2), 0);
    }

    private static void moves() {
        Checks.says("IllegalStateException: there is no legal move as told");
        for (Twins.Way way : WAYS) {
            for (String move : new String[] {"e4e5", "a1a8", "e1e8", "h8h8", "a1a1", "e2e4=5", "g8h8", "d7d8=5"}) {
                state(move, way, board -> Checks.play(board, move));
            }
        }
        for (String move : new String[] {"e2e5", "e7e5", "e1e2", "e1g1", "a1a3", "e2e2", "d1d3", "g1e2", "e2f3"}) {
            state(move, NEW, board -> Checks.play(board, move));
        }
        Twins.Way pinned = board -> Checks.read(board, "4r2k/8/8/8/8/8/4N3/4K3 w - - 0 1");
        state("a man whose king would be in check", pinned, board -> Checks.play(board, "e2c3"));
        Twins.Way pawn = board -> Checks.read(board, "7k/P7/1P6/8/8/8/8/7K w - - 0 1");
        for (int man : new int[] {0, 1, 6, 7, 8, 10, 13, -1, -2, -5, 512, FAR[0], FAR[2]}) {
            state("to rank 7 as " + man, pawn, board -> board.play(Checks.at("a7"), Checks.at("a8"), man));
        }
        for (int man : new int[] {1, 2, 3, 4, 5, 6, 7, 8, -1, -5, 64, 512, FAR[0], FAR[2]}) {
            state("to rank 6 as " + man, pawn, board -> board.play(Checks.at("b6"), Checks.at("b7"), man));
            state("a king as " + man, pawn, board -> board.play(Checks.at("h1"), Checks.at("h2"), man));
        }
        for (int man = 2; man <= 5; man++) {
            Checks.due("as " + man, Twins.after(pawn).play(Checks.at("a7"), Checks.at("a8"), man), 0);
        }
        Checks.due("to rank 6", Twins.after(pawn).play(Checks.at("b6"), Checks.at("b7"), 0), 0);
    }

    private static void takingBack() {
        Checks.says("IllegalStateException: none to take back");
        state("back of a new object", NEW, KingsBoard::back);
        state("back behind read", MATED, KingsBoard::back);
        Twins.Way once = board -> Checks.play(board, "e2e4");
        Checks.due("back of one", Twins.after(once).back(), 0);
        Twins.Way gone = board -> {
            Checks.play(board, "e2e4");
            board.back();
        };
        state("back of none more", gone, KingsBoard::back);
        Checks.says("IllegalStateException: there would be more than 1,024 to take back");
        Twins.Way most = board -> {
            for (int k = 0; k < 1024; k += 4) {
                Checks.play(board, "g1f3 g8f6 f3g1 f6g8");
            }
        };
        // Calls behind the 512th are free, but the limit that the document names is kept there too.
        state("the 1,025th", most, board -> Checks.play(board, "e2e4"));
        KingsBoard board = Twins.after(most);
        Checks.due("1,024 were taken", board.back(), 1023);
        Checks.due("the 1,024th again", Checks.play(board, "f6g8"), 0);
        Checks.due("and back", board.back(), 1023);
    }

    private static void firstNamed() {
        Checks.says("of several exceptions the one named first is thrown");
        Twins.refused("type", IllegalArgumentException.class, FULL, board -> board.type('A', 0));
        Twins.refused("type", IllegalArgumentException.class, FULL, board -> board.type('A', 9));
        Twins.refused("type", IllegalArgumentException.class, FULL, board -> board.type(31, 1));
        Twins.refused("type", IllegalArgumentException.class, FULL, board -> board.type('A' | 127 << 8, 2));
        for (int square : outside(0, 63)) {
            for (int side : outside(0, 1)) {
                index("attacked", board -> board.attacked(square, side));
            }
        }
        for (int what : outside(0, 2)) {
            Twins.refused("move", IndexOutOfBoundsException.class, NEW, board -> board.move(20, what));
            Twins.refused("move", IndexOutOfBoundsException.class, NEW, board -> board.move(-1, what));
            Twins.refused("move", IndexOutOfBoundsException.class, MATED, board -> board.move(0, what));
        }
        index("play, no such square to", board -> board.play(40, 64, 0));
        index("play, no such square from", board -> board.play(-1, 40, 9));
        index("play, neither", board -> board.play(64, -1, -1));
    }
}
