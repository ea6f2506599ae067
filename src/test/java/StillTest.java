/** What each call leaves as it is: the document names what changes, and all else stays. */
public final class StillTest {
    private static final String PASSED = "r3k2r/8/8/3pP3/8/8/8/R3K2R w KQkq d6 0 9";

    private static final Twins.Way NEW = board -> { };
    private static final Twins.Way BUSY = board -> {
        Checks.read(board, "r3k2r/3p4/8/4P3/8/8/8/R3K2R b KQkq - 98 9");
        board.write();
        Checks.play(board, "d7d5");
        board.search(1);
        Checks.read(board, "8/8/8/8/8/8/x");
        Checks.type(board, "4k3/8/8/8/8/8/4P3/4K3 w - - 0 ");
    };
    private static final Twins.Way MATED = board -> Checks.read(board, "R5k1/5ppp/8/8/8/8/8/6K1 b - - 7 1");
    private static final Twins.Way[] WAYS = {NEW, BUSY, MATED};

    public static void main(String[] args) {
        callsThatAnswer();
        write();
        search();
        type();
        readWithFault();
        readWithoutFault();
        playAndBack();
        objectsApart();
        Checks.finish();
    }

    private static void callsThatAnswer() {
        Checks.says("nothing is promised beyond the answers and state changes described");
        for (Twins.Way way : WAYS) {
            Twins.still("place", way, KingsBoard::place);
            Twins.still("state", way, KingsBoard::state);
            Twins.still("moves", way, KingsBoard::moves);
            Twins.still("worth", way, KingsBoard::worth);
            for (int k = 0; k < 4; k++) {
                int depth = k;
                Twins.still("ways " + depth, way, board -> board.ways(depth));
            }
            Twins.still("man, attacked", way, board -> {
                for (int square = 0; square < 64; square++) {
                    board.man(square);
                    board.attacked(square, square % 2);
                }
            });
            Twins.still("about, chosen", way, board -> {
                for (int what = 0; what < 6; what++) {
                    board.about(what);
                    board.chosen(what % 3);
                }
            });
            Twins.still("move", way, board -> {
                for (int i = board.moves() - 1; i >= 0; i--) {
                    board.move(i, i % 3);
                }
            });
        }
        Twins.still("written", BUSY, board -> board.written(0));
    }

    private static void write() {
        Checks.says("write: the position is written, and nothing else changes");
        for (Twins.Way way : WAYS) {
            Twins.Way wrote = board -> {
                way.go(board);
                board.write();
            };
            Twins.still("a second write", wrote, KingsBoard::write);
        }
        KingsBoard board = Checks.set(PASSED);
        board.write();
        Checks.due("passed", board.about(2), Checks.at("d6"));
    }

    private static void search() {
        Checks.says("search: a move is CHOSEN, and nothing else changes");
        for (Twins.Way way : WAYS) {
            for (int k = 1; k <= 3; k++) {
                int depth = k;
                Twins.Way searched = board -> {
                    way.go(board);
                    board.search(depth);
                };
                Twins.Way other = board -> {
                    board.search(4 - depth);
                    board.search(depth);
                };
                Twins.still("searches", searched, other);
            }
        }
        KingsBoard board = Checks.set(PASSED);
        board.search(3);
        Checks.due("the position", Checks.written(board), PASSED);
    }

    private static void type() {
        Checks.says("type: only the characters typed change");
        KingsBoard board = Twins.after(BUSY);
        KingsBoard other = Twins.after(BUSY);
        Checks.due("typed", board.type('1', 1), 31);
        board.read();
        other.type('1', 1);
        other.type('0', 1);
        Checks.due("read", other.read(), 0);
        Checks.due("one", Checks.written(board), "4k3/8/8/8/8/8/4P3/4K3 w - - 0 1");
        Checks.due("ten", Checks.written(other), "4k3/8/8/8/8/8/4P3/4K3 w - - 0 10");
        KingsBoard typed = Twins.after(MATED);
        typed.search(1);
        typed.type('x', 1);
        Checks.due("chosen", Checks.chosen(typed), "none");
        Checks.due("place", typed.place(), KingsBoard.NONE);
        Checks.due("state", typed.state(), 1);
    }

    private static void readWithFault() {
        Checks.says("read: else the FAULT, and all but the characters stays");
        String[] wrongRows = {
            "8/8/8/8/8/8/8/8 w - - 0 1", "k6P/8/8/8/8/8/8/7K w - - 0 1", "k7/8/8/8/8/8/8/R6K w - - 0 1",
            "k7/8/8/8/8/8/8/7K w K - 0 1", "k7/8/8/8/8/8/8/7K w - a6 0 1",
        };
        Twins.Way before = board -> {
            Checks.play(board, "g1f3 g8f6 f3g1 f6g8 g1f3 g8f6 f3g1 f6g8");
            board.write();
            board.search(1);
        };
        for (int k = 0; k < wrongRows.length; k++) {
            int fault = k + 2;
            String text = wrongRows[k];
            Twins.still("FAULT " + fault, before, board -> Checks.due(text, Checks.read(board, text), fault));
        }
        KingsBoard board = Twins.after(before);
        Checks.due("FAULT 1", Checks.read(board, "8/8/8/8/8/8/8/8 w - - 0 x"), 1);
        Checks.due("its place", board.place(), 24);
        Checks.due("FAULT 2 takes the place away", Checks.read(board, wrongRows[0]), 2);
        Checks.due("all else stays", Twins.all(board), Twins.all(Twins.after(before)));
    }

    private static void readWithoutFault() {
        Checks.says("read: 0 when that is set then (nothing can be taken back, nothing stood before)");
        KingsBoard board = new KingsBoard();
        Checks.play(board, "g1f3 g8f6 f3g1 f6g8 g1f3 g8f6 f3g1 f6g8");
        Checks.due("it stood twice before", board.state(), 4);
        board.write();
        board.search(1);
        Checks.due("read", Checks.read(board, PASSED), 0);
        Checks.due("what was written stays", board.written(0), 'r');
        Checks.due("what was chosen stays", Checks.chosen(board), "b1c3");
        Checks.dueThrow("back", IllegalStateException.class, board::back);
        Checks.due("set", Checks.written(board), PASSED);
        Checks.due("the beginning again", Checks.read(board, Checks.BEGINNING), 0);
        Checks.due("it did not stand before", board.state(), 0);
        Checks.play(board, "g1f3 g8f6 f3g1 f6g8");
        Checks.due("once before", board.state(), 0);
        Checks.play(board, "g1f3 g8f6 f3g1 f6g8");
        Checks.due("twice before", board.state(), 4);
        Checks.due("eight to take back", board.back(), 7);
    }

    private static void playAndBack() {
        Checks.says("play and back: place, what was written, typed and chosen stay");
        for (Twins.Way way : new Twins.Way[] {NEW, BUSY}) {
            Twins.still("play and back", way, board -> {
                int from = board.move(0, 0);
                board.play(from, board.move(0, 1), 0);
                board.back();
            });
        }
        KingsBoard board = Twins.after(BUSY);
        Checks.play(board, "e5d6");
        Checks.due("place", board.place(), 12);
        Checks.due("chosen", Checks.chosen(board), "a1a8");
        Checks.due("written", board.written(5), '/');
        Checks.due("typed", board.type('1', 1), 31);
    }

    private static void objectsApart() {
        Checks.says("no object changes another one");
        KingsBoard one = new KingsBoard();
        KingsBoard other = new KingsBoard();
        BUSY.go(one);
        Checks.due("the other one is new", Twins.all(other), Twins.all(new KingsBoard()));
        Checks.due("the one is busy", Twins.all(one), Twins.all(Twins.after(BUSY)));
    }
}
