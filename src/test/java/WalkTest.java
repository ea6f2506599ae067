import java.util.ArrayList;
import java.util.List;

/** All promises on many positions: each answer is compared with the plain board's. */
public final class WalkTest {
    private static final String[] BEGINNINGS = {
        Checks.BEGINNING,
        "r3k2r/p1ppqpb1/bn2pnp1/3PN3/1p2P3/2N2Q1p/PPPBBPPP/R3K2R w KQkq - 0 1",
        "8/2p5/3p4/KP5r/1R3p1k/8/4P1P1/8 w - - 0 1",
        "r2q1rk1/pP1p2pp/Q4n2/bbp1p3/Np6/1B3NBn/pPPP1PPP/R3K2R b KQ - 0 1",
        "4k3/pppppppp/8/8/8/8/PPPPPPPP/4K3 w - - 0 1",
        "r3k2r/8/8/8/8/8/8/R3K2R w KQkq - 90 1",
        "8/PPP1k3/8/8/8/8/ppp1K3/8 b - - 0 9990",
        "4k3/8/8/3b4/8/2B5/1n6/4K3 w - - 0 1",
        "q2qkq2/q2q4/q2q4/8/8/Q2Q4/Q2Q4/Q2QKQ2 w - - 0 1",
    };

    private static long seed = 20261115;

    private static final PlainBoard.Move BACK = new PlainBoard.Move(-1, -1, -1);

    private final String beginning;
    private final List<PlainBoard.Move> path = new ArrayList<>();
    private final List<PlainBoard> before = new ArrayList<>();
    private PlainBoard plain;

    private WalkTest(String text) {
        beginning = text;
        plain = new PlainReader(text).board;
    }

    public static void main(String[] args) {
        Checks.says("promises 5 to 18 behind many moves");
        for (int k = 0; k < 27; k++) {
            new WalkTest(BEGINNINGS[k % BEGINNINGS.length]).walk();
        }
        Checks.says("promises 3 to 18 in many positions");
        for (int k = 0; k < 3000; k++) {
            readRandom(randomMen(4 + random(20)));
        }
        Checks.says("promises 3 and 4 on many rows of characters");
        for (int k = 0; k < 6000; k++) {
            readMutant();
        }
        Checks.finish();
    }

    private static int random(int bound) {
        seed = seed * 6364136223846793005L + 1442695040888963407L;
        return (int) ((seed >>> 33) % bound);
    }

    private void walk() {
        for (int turn = 0; turn < 40; turn++) {
            List<PlainBoard.Move> moves = plain.moves();
            int due = 0;
            if (!before.isEmpty() && (moves.isEmpty() || random(5) == 0)) {
                plain = before.remove(before.size() - 1);
                path.add(BACK);
                due = before.size();
            } else if (!moves.isEmpty()) {
                PlainBoard.Move move = moves.get(random(moves.size()));
                before.add(plain);
                plain = plain.copy();
                due = plain.make(move);
                path.add(move);
            }
            compare(due);
        }
    }

    /** A new board that goes the whole path, since no board is asked more often than 512 times. */
    private KingsBoard follow(int due) {
        KingsBoard board = Checks.set(beginning);
        int answer = 0;
        for (PlainBoard.Move move : path) {
            answer = move == BACK ? board.back() : board.play(move.from(), move.to(), move.becomes());
        }
        Checks.due("the last step to " + plain.written(), answer, due);
        return board;
    }

    private void compare(int due) {
        KingsBoard board = follow(due);
        List<String> keys = new ArrayList<>();
        for (PlainBoard each : before) {
            keys.add(each.key());
        }
        Checks.due("state of " + plain.written(), board.state(), plain.state(keys));
        compareSquares(board, plain);
        KingsBoard searcher = follow(due);
        compareMoves(searcher, plain);
        int deep = random(12) == 0 && plain.moves().size() < 25 ? 3 : 2;
        for (int n = 1; n <= deep; n++) {
            compareSearch(searcher, plain, n);
        }
    }

    private static void compareSquares(KingsBoard board, PlainBoard plain) {
        String text = plain.written();
        Checks.due("written", Checks.written(board), text);
        Checks.due("check in " + text, board.about(5), plain.inCheck(plain.mover) ? 1 : 0);
        Checks.due("worth of " + text, board.worth(), plain.worth());
        for (int square = 0; square < 64; square++) {
            Checks.due("man on " + square + " in " + text, board.man(square), plain.men[square]);
            for (int side = 0; side < 2; side++) {
                Checks.due("attacked " + square + " by " + side + " in " + text,
                        board.attacked(square, side), plain.attacked(square, side));
            }
        }
    }

    private static void compareMoves(KingsBoard board, PlainBoard plain) {
        String text = plain.written();
        List<PlainBoard.Move> moves = plain.moves();
        int count = board.moves();
        Checks.due("moves of " + text, count, moves.size());
        for (int i = 0; i < Math.min(moves.size(), count); i++) {
            Checks.due("from of " + i + " in " + text, board.move(i, 0), moves.get(i).from());
            Checks.due("to of " + i + " in " + text, board.move(i, 1), moves.get(i).to());
            Checks.due("becomes of " + i + " in " + text, board.move(i, 2), moves.get(i).becomes());
        }
    }

    private static void compareSearch(KingsBoard board, PlainBoard plain, int n) {
        String text = plain.written();
        Checks.due("ways " + n + " of " + text, board.ways(n), plain.ways(n));
        Checks.due("value " + n + " of " + text, board.search(n), plain.value(n));
        PlainBoard.Move due = plain.choice(n);
        Checks.due("from chosen " + n + " in " + text, board.chosen(0), due == null ? -1 : due.from());
        Checks.due("to chosen " + n + " in " + text, board.chosen(1), due == null ? -1 : due.to());
        Checks.due("becomes chosen " + n + " in " + text, board.chosen(2), due == null ? -1 : due.becomes());
    }

    private static PlainBoard randomMen(int count) {
        PlainBoard plain = new PlainBoard();
        plain.men[random(64)] = 6;
        plain.men[random(64)] = -6;
        int sliders = random(2);
        for (int k = 0; k < count; k++) {
            int square = random(64);
            int kind = sliders == 1 ? 1 + random(5) : 1 + random(2) * random(5);
            if (Math.abs(plain.men[square]) != 6 && (kind > 1 || square > 7 && square < 56 || random(40) == 0)) {
                plain.men[square] = random(2) == 0 ? kind : -kind;
            }
        }
        plain.mover = random(2);
        plain.halves = random(3) == 0 ? 95 + random(8) : random(50);
        if (random(3) == 0) {
            passPawn(plain);
        }
        if (random(3) == 0) {
            goHome(plain);
        }
        return plain;
    }

    /** Puts most kings and rooks at their places, with any RIGHTS, whatever comes of it. */
    private static void goHome(PlainBoard plain) {
        for (int side = 0; side < 2; side++) {
            int sign = side == 0 ? 1 : -1;
            int base = 56 * side;
            int column = random(8) == 0 ? random(8) : 4;
            for (int square = 0; square < 64; square++) {
                boolean isOwnKing = plain.men[square] == 6 * sign;
                boolean isBetween = square / 8 == base / 8 && random(3) > 0;
                plain.men[square] = isOwnKing || isBetween ? 0 : plain.men[square];
            }
            plain.men[base] = random(8) == 0 ? 0 : 4 * sign;
            plain.men[base + 7] = random(8) == 0 ? 0 : 4 * sign;
            plain.men[base + column] = 6 * sign;
        }
        plain.rights = random(16);
    }

    /** Puts a pawn that went by two beside one of the side to move, whatever comes of it. */
    private static void passPawn(PlainBoard plain) {
        int sign = plain.mover == 0 ? 1 : -1;
        int row = plain.mover == 0 ? 4 : 3;
        int column = random(8);
        int beside = column == 0 ? 1 : column == 7 ? 6 : column + 2 * random(2) - 1;
        int[] cleared = {8 * (row + sign) + column, 8 * (row + 2 * sign) + column};
        for (int square : cleared) {
            if (Math.abs(plain.men[square]) != 6) {
                plain.men[square] = 0;
            }
        }
        if (Math.abs(plain.men[8 * row + column]) != 6 && Math.abs(plain.men[8 * row + beside]) != 6) {
            plain.men[8 * row + column] = -sign;
            plain.men[8 * row + beside] = sign;
        }
        plain.passed = cleared[0];
    }

    private static void readRandom(PlainBoard wanted) {
        KingsBoard board = new KingsBoard();
        PlainReader reader = readBoth(board, wanted.written());
        if (reader.fault == 0) {
            compareSquares(board, reader.board);
            KingsBoard searcher = Checks.set(wanted.written());
            compareMoves(searcher, reader.board);
            compareSearch(searcher, reader.board, 1);
            Checks.due("state", board.state(), reader.board.state(new ArrayList<>()));
        }
    }

    private static PlainReader readBoth(KingsBoard board, String text) {
        PlainReader reader = new PlainReader(text);
        Checks.due("read of " + text, Checks.read(board, text), reader.fault);
        Checks.due("place in " + text, board.place(), reader.place);
        Checks.due("behind " + text, Checks.written(board),
                reader.fault == 0 ? reader.board.written() : Checks.BEGINNING);
        return reader;
    }

    /** A written position with some characters changed, left out or put in. */
    private static void readMutant() {
        String signs = "12345678/90 wb-KQkqPpNnRrabcdefgh~";
        StringBuilder text = new StringBuilder(BEGINNINGS[random(BEGINNINGS.length)]);
        for (int k = 1 + random(2); k > 0 && text.length() > 0; k--) {
            int at = random(text.length());
            char sign = signs.charAt(random(signs.length()));
            int how = random(4);
            if (how == 0) {
                text.setCharAt(at, sign);
            } else if (how == 1) {
                text.insert(at, sign);
            } else if (how == 2) {
                text.deleteCharAt(at);
            } else {
                text.setLength(random(8) == 0 ? at : text.length());
                text.append(random(4) == 0 ? "" + sign : "");
            }
        }
        readBoth(new KingsBoard(), text.toString());
    }
}
