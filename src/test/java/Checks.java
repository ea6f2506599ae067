/** What the tests share: a count of wrong answers, and ways to put texts into a board and out of it. */
final class Checks {
    static final String BEGINNING = "rnbqkbnr/pppppppp/8/8/8/8/PPPPPPPP/RNBQKBNR w KQkq - 0 1";

    private static int wrong = 0;
    private static int asked = 0;

    private Checks() {
    }

    interface Call {
        void run();
    }

    static void due(String what, long got, long want) {
        asked++;
        if (got != want) {
            wrong++;
            System.out.println(what + " answered " + got + ", due is " + want);
        }
    }

    static void due(String what, boolean got, boolean want) {
        due(what, got ? 1 : 0, want ? 1 : 0);
    }

    static void due(String what, String got, String want) {
        asked++;
        if (!got.equals(want)) {
            wrong++;
            System.out.println(what + " answered " + got + ", due is " + want);
        }
    }

    static void dueThrow(String what, Class<? extends RuntimeException> want, Call call) {
        String got = "nothing";
        try {
            call.run();
        } catch (RuntimeException thrown) {
            got = thrown.getClass().getSimpleName();
        }
        due(what + " throws", got, want.getSimpleName());
    }

    static void finish() {
        System.out.println("  " + asked + " answers looked at, " + wrong + " wrong");
        if (wrong != 0 || asked == 0) {
            System.exit(1);
        }
    }

    static void type(KingsBoard board, String text) {
        for (int begin = 0; begin < text.length(); begin += 8) {
            int end = Math.min(text.length(), begin + 8);
            long w = 0;
            for (int k = end - 1; k >= begin; k--) {
                w = w << 8 | text.charAt(k);
            }
            board.type(w, end - begin);
        }
    }

    static int read(KingsBoard board, String text) {
        type(board, text);
        return board.read();
    }

    static KingsBoard set(String text) {
        KingsBoard board = new KingsBoard();
        due("read of " + text, read(board, text), 0);
        return board;
    }

    static String written(KingsBoard board) {
        int count = board.write();
        StringBuilder text = new StringBuilder();
        for (int i = 0; i < count; i++) {
            text.append((char) board.written(i));
        }
        return text.toString();
    }

    /** A square by its name, such as e4. */
    static int at(String name) {
        return 8 * (name.charAt(1) - '1') + name.charAt(0) - 'a';
    }

    /** Plays moves such as e2e4 or a7a8=5, and answers what the last one took. */
    static int play(KingsBoard board, String moves) {
        int taken = 0;
        for (String move : moves.split(" ")) {
            int becomes = move.length() > 4 ? move.charAt(5) - '0' : 0;
            taken = board.play(at(move.substring(0, 2)), at(move.substring(2, 4)), becomes);
        }
        return taken;
    }

    /** The legal moves in their order, in the form that play() takes. */
    static String moves(KingsBoard board) {
        StringBuilder text = new StringBuilder();
        int count = board.moves();
        for (int i = 0; i < count; i++) {
            text.append(i == 0 ? "" : " ").append(name(board.move(i, 0))).append(name(board.move(i, 1)));
            int becomes = board.move(i, 2);
            text.append(becomes == 0 ? "" : "=" + becomes);
        }
        return text.toString();
    }

    static String chosen(KingsBoard board) {
        if (board.chosen(0) == KingsBoard.NONE) {
            return "none";
        }
        int becomes = board.chosen(2);
        return name(board.chosen(0)) + name(board.chosen(1)) + (becomes == 0 ? "" : "=" + becomes);
    }

    static String name(int square) {
        return "" + (char) ('a' + square % 8) + (char) ('1' + square / 8);
    }
}
