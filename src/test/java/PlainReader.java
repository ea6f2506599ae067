import java.util.regex.Pattern;

/** Reads a written position as the document says, a character at a time: may it stand behind the others? */
final class PlainReader {
    private static final Pattern[] FIELDS = {
        Pattern.compile("([PNBRQKpnbrqk]|[1-8](?![1-8]))*"),
        Pattern.compile("[wb]"),
        Pattern.compile("-|(?=.)K?Q?k?q?"),
        Pattern.compile("-|[a-h][1-8]"),
        Pattern.compile("0|[1-9][0-9]{0,3}"),
        Pattern.compile("[1-9][0-9]{0,3}"),
    };

    int fault;
    int place = -1;
    PlainBoard board = new PlainBoard();

    PlainReader(String text) {
        int field = 0;
        String part = "";
        String[] whole = new String[6];
        for (int i = 0; i < text.length() && place < 0; i++) {
            char c = text.charAt(i);
            if (canBegin(field, part + c)) {
                part += c;
            } else if (c == ' ' && field < 5 && isWhole(field, part)) {
                whole[field++] = part;
                part = "";
            } else {
                place = i;
            }
        }
        if (place < 0 && !(field == 5 && isWhole(5, part))) {
            place = text.length();
        }
        whole[5] = part;
        fault = place >= 0 ? 1 : fill(whole);
    }

    private static boolean isWhole(int field, String part) {
        if (field > 0) {
            return FIELDS[field].matcher(part).matches();
        }
        String[] rows = part.split("/", -1);
        return rows.length == 8 && squares(rows[7]) == 8 && canBegin(0, part);
    }

    private static boolean canBegin(int field, String part) {
        if (field > 0) {
            return isWhole(field, part) || isWhole(field, part + "1");
        }
        String[] rows = part.split("/", -1);
        for (int k = 0; k < rows.length; k++) {
            int squares = squares(rows[k]);
            if (squares < 0 || squares > 8 || k < rows.length - 1 && squares != 8) {
                return false;
            }
        }
        return rows.length <= 8;
    }

    private static int squares(String row) {
        if (!FIELDS[0].matcher(row).matches()) {
            return -1;
        }
        int sum = 0;
        for (char c : row.toCharArray()) {
            sum += c <= '8' ? c - '0' : 1;
        }
        return sum;
    }

    private int fill(String[] whole) {
        int square = 56;
        for (char c : whole[0].toCharArray()) {
            if (c == '/') {
                square -= 16;
            } else if (c <= '8') {
                square += c - '0';
            } else {
                int white = "?PNBRQK".indexOf(c);
                board.men[square++] = white > 0 ? white : -"?pnbrqk".indexOf(c);
            }
        }
        board.mover = whole[1].equals("w") ? 0 : 1;
        for (int k = 0; k < 4; k++) {
            board.rights |= whole[2].indexOf("KQkq".charAt(k)) >= 0 ? 1 << k : 0;
        }
        board.passed = whole[3].equals("-") ? -1 : Checks.at(whole[3]);
        board.halves = Integer.parseInt(whole[4]);
        board.number = Integer.parseInt(whole[5]);
        int found = faultOf(board);
        if (found == 0 && board.passed >= 0) {
            board.settlePassed();
        }
        return found;
    }

    private static int faultOf(PlainBoard b) {
        int[] kings = new int[2];
        int[] all = new int[2];
        boolean edgePawn = false;
        for (int square = 0; square < 64; square++) {
            int man = b.men[square];
            if (man != 0) {
                all[PlainBoard.sideOf(man)]++;
                kings[PlainBoard.sideOf(man)] += Math.abs(man) == 6 ? 1 : 0;
                edgePawn |= Math.abs(man) == 1 && (square < 8 || square > 55);
            }
        }
        if (kings[0] != 1 || kings[1] != 1 || all[0] > 16 || all[1] > 16) {
            return 2;
        }
        if (edgePawn) {
            return 3;
        }
        if (b.inCheck(1 - b.mover)) {
            return 4;
        }
        boolean whiteHome = b.men[4] == 6;
        boolean blackHome = b.men[60] == -6;
        if ((b.rights & 1) != 0 && !(whiteHome && b.men[7] == 4)
                || (b.rights & 2) != 0 && !(whiteHome && b.men[0] == 4)
                || (b.rights & 4) != 0 && !(blackHome && b.men[63] == -4)
                || (b.rights & 8) != 0 && !(blackHome && b.men[56] == -4)) {
            return 5;
        }
        if (b.passed < 0) {
            return 0;
        }
        int up = b.mover == 0 ? 8 : -8;
        boolean right = PlainBoard.rank(b.passed, b.mover) == 5 && b.men[b.passed] == 0
                && b.men[b.passed + up] == 0 && b.men[b.passed - up] == (b.mover == 0 ? -1 : 1);
        return right ? 0 : 6;
    }
}
