/** FAULT 1 and PLACE: where a row of characters is not a written position. Promises 3 and 4. */
public final class PlacesTest {
    private static final String KINGS = "k7/8/8/8/8/8/8/7K";
    private static final String[] RIGHT = {
        Checks.BEGINNING,
        KINGS + " w - - 0 1",
        "r3k2r/8/8/3pP3/8/8/8/R3K2R w KQkq d6 0 9999",
        "r3k2r/8/8/8/3pP3/8/8/R3K2R b Kq e3 9999 12",
        "1n1k1b1r/p1p1p1p1/1n1n1n1n/8/2P2P2/1P4P1/8/RNBQ1K1R w - - 30 7",
    };

    public static void main(String[] args) {
        menAndDigits();
        tooMany();
        tooFew();
        rows();
        sides();
        rights();
        passed();
        halves();
        number();
        ends();
        behindTheEnd();
        everyCharacter();
        place();
        Checks.finish();
    }

    /** Each row is not written so, and its PLACE is the number behind it. */
    private static void place(Object... rowsAndPlaces) {
        for (int k = 0; k < rowsAndPlaces.length; k += 2) {
            String text = (String) rowsAndPlaces[k];
            KingsBoard board = new KingsBoard();
            Checks.due("read of " + text, Checks.read(board, text), 1);
            Checks.due("place in " + text, board.place(), (Integer) rowsAndPlaces[k + 1]);
            Checks.due("the position behind " + text, Checks.written(board), Checks.BEGINNING);
        }
    }

    private static void right(String... texts) {
        for (String text : texts) {
            KingsBoard board = Checks.set(text);
            Checks.due("place in " + text, board.place(), KingsBoard.NONE);
            Checks.due("written again", Checks.written(board), text);
        }
    }

    private static void menAndDigits() {
        Checks.says("letters P N B R Q K for WHITE, p n b r q k for BLACK, digits 1 .. 8");
        place("0", 0, "9", 0, "x", 0, " ", 0, "/", 0, "-", 0, "A", 0, "O", 0, "S", 0, "o", 0, "s", 0, "~", 0);
        place("p0", 1, "p9", 1, "7x", 1, "3p3w", 3);
        right("rnbqk3/p7/8/8/8/8/P7/RNBQK3 w - - 0 1", "k7/1p6/2p5/3p4/4p3/5p2/6p1/7K w - - 0 1");
        Checks.says("no two digits beside one another");
        place("44", 1, "11", 1, "71", 1, "17", 1, "p11", 2, "3p22", 3, "88", 1, "8/44", 3);
        right("1k1n4/8/8/8/8/8/8/7K w - - 0 1");
    }

    private static void tooMany() {
        Checks.says("of too many squares in a row the letter or digit with which they are");
        place("ppppppppp", 8, "8p", 1, "81", 1, "p8", 1, "pp7", 2, "ppppppp2", 7, "pppppppp1", 8, "7pp", 2);
        place("8/8/8/8/8/8/8/8p", 15, "8/8/8/8/8/8/8/p8", 15);
        right("knnnnnnn/8/8/8/8/8/8/K7 w - - 0 1", "k6n/8/8/8/8/8/8/K7 w - - 0 1");
    }

    private static void tooFew() {
        Checks.says("a row with too few: the 47 or 32 behind it");
        place("7/", 1, "ppppppp/", 7, "p2p2p/", 5, "1/", 1, "p/", 1);
        place("7 ", 1, "8/7/", 3, "8/8/8/8/8/8/8/7 w", 15, "8/8/8/8/8/8/8/ppppppp w", 21);
        place("8/8/8/8/8/8/7/8 w", 13, "8//", 2, "8/ ", 2, "8/8/8/8/8/8/8/7/", 15);
    }

    private static void rows() {
        Checks.says("from row 7 down, 47 between them");
        place("8 ", 1, "8-", 1, "8.8", 1, "8/8/8/8/8/8/8 w", 13, "8/8/8/8/8/8/8/8/", 15, "8/8/8/8/8/8/8/8/8 w", 15);
        place("/8", 0, "8/8/8/8/8/8/8//", 14);
        Checks.due("row 7 first", Checks.set("k7/8/8/8/8/8/8/7K w - - 0 1").man(56), -6);
    }

    private static void sides() {
        Checks.says("32; w or b; 32");
        place(KINGS + "  w", 18, KINGS + "w", 17, KINGS + "/w", 17, KINGS + " W", 18, KINGS + " B", 18);
        place(KINGS + " -", 18, KINGS + " ww", 19, KINGS + " wb", 19, KINGS + " w-", 19, KINGS + " x", 18);
        right(KINGS + " w - - 0 1", KINGS + " b - - 0 1");
    }

    private static void rights() {
        Checks.says("K, Q, k, q for the RIGHTS 1, 2, 4, 8 in this order, or 45 for none");
        String begin = KINGS + " w ";
        place(begin + "x", 20, begin + " ", 20, begin + "0", 20, begin + "R", 20, begin + "w", 20);
        place(begin + "KK", 21, begin + "QQ", 21, begin + "kk", 21, begin + "qq", 21);
        place(begin + "QK", 21, begin + "kK", 21, begin + "kQ", 21, begin + "qK", 21, begin + "qQ", 21, begin + "qk", 21);
        place(begin + "KQkqK", 24, begin + "KQkq-", 24, begin + "KQqk", 23, begin + "-K", 21, begin + "K-", 21);
        place(begin + "--", 21, begin + "KQkqx", 24);
        for (int rights = 0; rights < 16; rights++) {
            StringBuilder letters = new StringBuilder(rights == 0 ? "-" : "");
            for (int k = 0; k < 4; k++) {
                letters.append((rights >> k & 1) == 1 ? "KQkq".substring(k, k + 1) : "");
            }
            String text = "r3k2r/8/8/8/8/8/8/R3K2R w " + letters + " - 0 1";
            right(text);
            Checks.due("RIGHTS " + letters, Checks.set(text).about(1), rights);
        }
    }

    private static void passed() {
        Checks.says("the PASSED square as a letter a .. h and a digit 1 .. 8, or 45");
        String begin = KINGS + " w - ";
        place(begin + "i6", 22, begin + "`6", 22, begin + "A6", 22, begin + "6", 22, begin + " ", 22, begin + "x", 22);
        place(begin + "a0", 23, begin + "a9", 23, begin + "ab", 23, begin + "a ", 23, begin + "a-", 23, begin + "h0", 23);
        place(begin + "a66", 24, begin + "a6x", 24, begin + "--", 23, begin + "-6", 23, begin + "-a6", 23);
        right("4k3/8/8/pP6/8/8/8/4K3 w - a6 0 1", "4k3/8/8/6Pp/8/8/8/4K3 w - h6 0 1");
        right("4k3/8/8/8/Pp6/8/8/4K3 b - a3 0 1", "4k3/8/8/8/6pP/8/8/4K3 b - h3 0 1");
        for (String square : new String[] {"a1", "h1", "a8", "h8"}) {
            KingsBoard board = new KingsBoard();
            Checks.due(square + " is written so", Checks.read(board, begin + square + " 0 1"), 6);
        }
    }

    private static void halves() {
        Checks.says("HALVES: of numbers above 9999 the digit that makes them so");
        String begin = KINGS + " w - - ";
        place(begin + "10000 1", 28, begin + "99999 1", 28, begin + "12345 1", 28, begin + "123456789 1", 28);
        right(begin + "9999 1", begin + "1000 1", begin + "999 1", begin + "100 1", begin + "10 1", begin + "9 1");
        Checks.says("HALVES: of a digit behind a first 0 that digit");
        place(begin + "00 1", 25, begin + "01 1", 25, begin + "09 1", 25, begin + "00000 1", 25);
        right(begin + "0 1");
        Checks.says("HALVES: in digits");
        place(begin + " ", 24, begin + "-", 24, begin + "+1", 24, begin + "x", 24, begin + ": 1", 24, begin + "/ 1", 24);
        place(begin + "0x", 25, begin + "1x", 25, begin + "12- 1", 26, begin + "9:", 25, begin + "0  1", 26);
        place(begin + "-1 1", 24);
    }

    private static void number() {
        Checks.says("NUMBER: of numbers above 9999 the digit that makes them so");
        String begin = KINGS + " w - - 0 ";
        place(begin + "10000", 30, begin + "99999", 30, begin + "123456", 30);
        right(begin + "9999", begin + "1000", begin + "999", begin + "100", begin + "10", begin + "9");
        Checks.says("the NUMBER is 1 or more: of a NUMBER 0 that 0");
        place(begin + "0", 26, begin + "01", 26, begin + "00", 26, begin + "0 ", 26);
        right(begin + "1");
        Checks.says("NUMBER: in digits");
        place(begin + " ", 26, begin + "-1", 26, begin + "x", 26, begin + ":", 26, begin + "/", 26);
    }

    private static void ends() {
        Checks.says("or the end, if more must come");
        place("", 0, "8", 1, "p", 1, "7", 1, "8/", 2);
        for (String text : RIGHT) {
            int last = text.lastIndexOf(' ');
            for (int end = 0; end <= last + 1; end++) {
                place(text.substring(0, end), end);
            }
            Checks.set(text.substring(0, last + 2));
        }
        place(KINGS + " w - a", 23);
    }

    private static void behindTheEnd() {
        Checks.says("PLACE is the first character that can't be there: behind the NUMBER none can");
        for (char c = 32; c <= 126; c++) {
            String text = KINGS + " w - - 0 1" + c;
            if (c >= '0' && c <= '9') {
                right(text);
            } else {
                place(text, 27);
            }
        }
        place(KINGS + " w - - 0 1 ", 27, KINGS + " w - - 0 1 1", 27, KINGS + " w - - 0 9999 ", 30);
    }

    private static void everyCharacter() {
        Checks.says("PLACE is the first character that can't be there");
        for (String text : RIGHT) {
            for (int i = 0; i <= text.length(); i++) {
                KingsBoard more = new KingsBoard();
                KingsBoard other = new KingsBoard();
                for (char c = 32; c <= 126; c++) {
                    // A new one in time, since no board is asked more often than 512 times.
                    more = c % 32 == 0 ? new KingsBoard() : more;
                    other = c % 32 == 0 ? new KingsBoard() : other;
                    asPlainReader(more, text.substring(0, i) + c + text.substring(i));
                    asPlainReader(other, text.substring(0, i) + c + text.substring(Math.min(i + 1, text.length())));
                }
            }
        }
    }

    private static void asPlainReader(KingsBoard board, String text) {
        PlainReader plain = new PlainReader(text);
        Checks.due("read of " + text, Checks.read(board, text), plain.fault);
        Checks.due("place in " + text, board.place(), plain.place);
    }

    private static void place() {
        Checks.says("place(): the PLACE of the latest read(), if it had FAULT 1; else NONE");
        KingsBoard board = new KingsBoard();
        Checks.due("no read", board.place(), KingsBoard.NONE);
        Checks.read(board, "8/9");
        Checks.due("FAULT 1", board.place(), 2);
        Checks.due("asked again", board.place(), 2);
        board.type('8', 1);
        Checks.due("typed since", board.place(), 2);
        Checks.play(board, "e2e4");
        Checks.due("played since", board.place(), 2);
        board.read();
        Checks.due("the latest one", board.place(), 1);
        board.read();
        Checks.due("nothing was typed", board.place(), 0);
        Checks.due("FAULT 2", Checks.read(board, "8/8/8/8/8/8/8/8 w - - 0 1"), 2);
        Checks.due("FAULT 2", board.place(), KingsBoard.NONE);
        Checks.read(board, "x");
        Checks.due("FAULT 1 at 0", board.place(), 0);
        Checks.due("none", Checks.read(board, Checks.BEGINNING), 0);
        Checks.due("no fault", board.place(), KingsBoard.NONE);
    }
}
