/** What the tests share: a count of wrong answers, and ways to put texts into a board and out of it. */
final class Checks {
    static final String BEGINNING = "rnbqkbnr/pppppppp/8/8/8/8/PPPPPPPP/RNBQKBNR w KQkq - 0 1";

    private static final int MOST_TOLD = 40;

    private static int wrong = 0;
    private static int asked = 0;
    private static int sentences = 0;
    private static int askedBefore = 0;
    private static String sentence = "";

    private Checks() {
    }

    interface Call {
        void run();
    }

    /** The words of the document that the answers from here on are about. */
    static void says(String words) {
        closeSentence();
        sentence = words;
        sentences++;
    }

    private static void closeSentence() {
        if (!sentence.isEmpty() && asked == askedBefore) {
            complain("nothing was asked");
        }
        askedBefore = asked;
        sentence = "";
    }

    private static void complain(String what) {
        wrong++;
        if (wrong <= MOST_TOLD) {
            System.out.println((sentence.isEmpty() ? "" : "[" + sentence + "] ") + what);
        }
    }

    static void due(String what, long got, long want) {
        asked++;
        if (got != want) {
            complain(what + " answered " + got + ", due is " + want);
        }
    }

    static void due(String what, boolean got, boolean want) {
        due(what, got ? 1 : 0, want ? 1 : 0);
    }

    static void due(String what, String got, String want) {
        asked++;
        if (!got.equals(want)) {
            complain(what + " answered " + got + ", due is " + want);
        }
    }

    static void dueThrow(String what, Class<? extends RuntimeException> want, Call call) {
        due(what + " throws", thrownBy(call), want.getSimpleName());
    }

    private static String thrownBy(Call call) {
        try {
            call.run();
            return "nothing";
        } catch (RuntimeException thrown) {
            return thrown.getClass().getSimpleName();
        }
    }

    static void finish() {
        closeSentence();
        System.out.println("  " + sentences + " sentences, " + asked + " answers looked at, " + wrong + " wrong");
        if (wrong != 0 || asked == 0) {
            System.exit(1);
        }
    }

    static void type(KingsBoard board, String text) {
        for (int begin = 0; begin < text.length(); begin += 8) {
            String part = text.substring(begin, Math.min(text.length(), begin + 8));
            board.type(packed(part), part.length());
        }
    }

    /** Up to eight characters as type() takes them. */
    static long packed(String part) {
        long w = 0;
        for (int k = part.length() - 1; k >= 0; k--) {
            w = w << 8 | part.charAt(k);
        }
        return w;
    }

    static int read(KingsBoard board, String text) {
        type(board, text);
        return board.read();
    }

    static KingsBoard set(String text) {
        KingsBoard board = new KingsBoard();
        due("read of " + text, read(board, text), 0);
        return board;
    }

    static String written(KingsBoard board) {
        int count = board.write();
        StringBuilder text = new StringBuilder();
        for (int i = 0; i < count; i++) {
            text.append((char) board.written(i));
        }
        return text.toString();
    }

    /** A square by its name, such as e4. */
    static int at(String name) {
        return 8 * (name.charAt(1) - '1') + name.charAt(0) - 'a';
    }

    /** Plays moves such as e2e4 or a7a8=5, and answers what the last one took. */
    static int play(KingsBoard board, String moves) {
        int taken = 0;
        for (String move : moves.split(" ")) {
            int becomes = move.length() > 4 ? move.charAt(5) - '0' : 0;
            taken = board.play(at(move.substring(0, 2)), at(move.substring(2, 4)), becomes);
        }
        return taken;
    }

    /** The legal moves in their order, in the form that play() takes. */
    static String moves(KingsBoard board) {
        StringBuilder text = new StringBuilder();
        int count = board.moves();
        for (int i = 0; i < count; i++) {
            text.append(i == 0 ? "" : " ").append(name(board.move(i, 0))).append(name(board.move(i, 1)));
            int becomes = board.move(i, 2);
            text.append(becomes == 0 ? "" : "=" + becomes);
        }
        return text.toString();
    }

    /** Whether a move is legal, for one side and, with the board turned round, for the other one. */
    static void legal(String text, String move, boolean due) {
        legalOnce(text, move, due);
        legalOnce(Mirror.text(text), Mirror.moves(move), due);
    }

    private static void legalOnce(String text, String move, boolean due) {
        KingsBoard board = set(text);
        String before = written(board);
        due(move + " is among the moves of " + text, (" " + moves(board) + " ").contains(" " + move + " "), due);
        String want = due ? "nothing" : "IllegalStateException";
        due(move + " in " + text + " throws", thrownBy(() -> play(board, move)), want);
        due("the position changed", !written(board).equals(before), due);
    }

    static String chosen(KingsBoard board) {
        if (board.chosen(0) == KingsBoard.NONE) {
            return "none";
        }
        int becomes = board.chosen(2);
        return name(board.chosen(0)) + name(board.chosen(1)) + (becomes == 0 ? "" : "=" + becomes);
    }

    static String name(int square) {
        return square < 0 ? "none" : "" + (char) ('a' + square % 8) + (char) ('1' + square / 8);
    }
}
