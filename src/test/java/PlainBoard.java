import java.util.ArrayList;
import java.util.List;

/**
 * The document's words once more, as slow and plain as they stand there, to compare the program with:
 * every pair of squares is tried, every move is made on a copy, and no branch of a search is left out.
 */
final class PlainBoard {
    final int[] men = new int[64];
    int mover;
    int rights;
    int passed = -1;
    int halves;
    int number = 1;

    record Move(int from, int to, int becomes) {
    }

    PlainBoard copy() {
        PlainBoard other = new PlainBoard();
        System.arraycopy(men, 0, other.men, 0, 64);
        other.mover = mover;
        other.rights = rights;
        other.passed = passed;
        other.halves = halves;
        other.number = number;
        return other;
    }

    static int sideOf(int man) {
        return man > 0 ? 0 : 1;
    }

    static int rank(int square, int side) {
        return side == 0 ? square / 8 : 7 - square / 8;
    }

    private boolean belongs(int square, int side) {
        return men[square] != 0 && sideOf(men[square]) == side;
    }

    boolean reaches(int from, int to) {
        int man = men[from];
        int kind = Math.abs(man);
        if (kind == 0 || from == to) {
            return false;
        }
        int rows = to / 8 - from / 8;
        int columns = to % 8 - from % 8;
        int far = Math.max(Math.abs(rows), Math.abs(columns));
        boolean straight = rows == 0 || columns == 0;
        boolean slant = Math.abs(rows) == Math.abs(columns);
        switch (kind) {
            case 1:
                return Math.abs(columns) == 1
                        && rank(to, sideOf(man)) == rank(from, sideOf(man)) + 1;
            case 2:
                return Math.abs(rows * columns) == 2;
            case 6:
                return far == 1;
            case 3:
                return slant && isClear(from, rows, columns, far);
            case 4:
                return straight && isClear(from, rows, columns, far);
            default:
                return (straight || slant) && isClear(from, rows, columns, far);
        }
    }

    private boolean isClear(int from, int rows, int columns, int far) {
        for (int k = 1; k < far; k++) {
            if (men[from + 8 * (rows / far) * k + columns / far * k] != 0) {
                return false;
            }
        }
        return true;
    }

    boolean attacked(int square, int side) {
        for (int from = 0; from < 64; from++) {
            if (belongs(from, side) && reaches(from, square)) {
                return true;
            }
        }
        return false;
    }

    boolean inCheck(int side) {
        for (int square = 0; square < 64; square++) {
            if (men[square] == (side == 0 ? 6 : -6)) {
                return attacked(square, 1 - side);
            }
        }
        return false;
    }

    private boolean castles(int from, int to) {
        int base = mover == 0 ? 0 : 56;
        if (from != base + 4 || Math.abs(men[from]) != 6) {
            return false;
        }
        boolean isShort = to == base + 6;
        if (!isShort && to != base + 2 || (rights & (isShort ? 1 : 2) << 2 * mover) == 0) {
            return false;
        }
        for (int column = isShort ? 5 : 1; column <= (isShort ? 6 : 3); column++) {
            if (men[base + column] != 0) {
                return false;
            }
        }
        return !inCheck(mover) && !attacked((from + to) / 2, 1 - mover) && !attacked(to, 1 - mover);
    }

    private boolean goes(int from, int to) {
        if (!belongs(from, mover) || belongs(to, mover)) {
            return false;
        }
        if (Math.abs(men[from]) != 1) {
            return reaches(from, to) || castles(from, to);
        }
        if (reaches(from, to)) {
            return men[to] != 0 || to == passed;
        }
        int up = mover == 0 ? 8 : -8;
        if (to == from + up) {
            return men[to] == 0;
        }
        return to == from + 2 * up && rank(from, mover) == 1 && men[to] == 0 && men[from + up] == 0;
    }

    List<Move> moves() {
        List<Move> found = new ArrayList<>();
        for (int from = 0; from < 64; from++) {
            for (int to = 0; to < 64; to++) {
                if (!goes(from, to)) {
                    continue;
                }
                boolean becomesMore = Math.abs(men[from]) == 1 && rank(to, mover) == 7;
                for (int becomes = becomesMore ? 2 : 0; becomes <= (becomesMore ? 5 : 0); becomes++) {
                    Move move = new Move(from, to, becomes);
                    PlainBoard behind = copy();
                    behind.makeLoosely(move);
                    if (!behind.inCheck(mover)) {
                        found.add(move);
                    }
                }
            }
        }
        return found;
    }

    /** Makes a move, and leaves the PASSED square for any pawn that went by two. Answers the man taken. */
    private int makeLoosely(Move move) {
        int from = move.from();
        int to = move.to();
        int man = men[from];
        int sign = mover == 0 ? 1 : -1;
        int taken = men[to];
        boolean isPawn = Math.abs(man) == 1;
        if (isPawn && to == passed) {
            int square = to - 8 * sign;
            taken = men[square];
            men[square] = 0;
        }
        men[from] = 0;
        men[to] = move.becomes() == 0 ? man : sign * move.becomes();
        if (Math.abs(man) == 6 && Math.abs(to - from) == 2) {
            int corner = to > from ? from + 3 : from - 4;
            men[(from + to) / 2] = men[corner];
            men[corner] = 0;
        }
        dropRights(from);
        dropRights(to);
        passed = isPawn && Math.abs(to - from) == 16 ? (from + to) / 2 : -1;
        halves = isPawn || taken != 0 ? 0 : halves + 1;
        number += mover == 1 ? 1 : 0;
        mover = 1 - mover;
        return taken;
    }

    private void dropRights(int square) {
        int[][] places = {{4, 7}, {4, 0}, {60, 63}, {60, 56}};
        for (int k = 0; k < 4; k++) {
            if (square == places[k][0] || square == places[k][1]) {
                rights &= ~(1 << k);
            }
        }
    }

    int make(Move move) {
        int taken = makeLoosely(move);
        settlePassed();
        return taken;
    }

    void settlePassed() {
        boolean isTakeable = false;
        for (Move next : moves()) {
            isTakeable |= Math.abs(men[next.from()]) == 1 && next.to() == passed;
        }
        if (!isTakeable) {
            passed = -1;
        }
    }

    boolean isBare() {
        int knights = 0;
        int even = 0;
        int odd = 0;
        for (int square = 0; square < 64; square++) {
            int kind = Math.abs(men[square]);
            if (kind == 1 || kind == 4 || kind == 5) {
                return false;
            }
            knights += kind == 2 ? 1 : 0;
            if (kind == 3) {
                even += (square / 8 + square % 8) % 2 == 0 ? 1 : 0;
                odd += (square / 8 + square % 8) % 2 == 1 ? 1 : 0;
            }
        }
        return knights == 0 && (even == 0 || odd == 0) || knights == 1 && even + odd == 0;
    }

    int state(List<String> before) {
        if (moves().isEmpty()) {
            return inCheck(mover) ? 1 : 2;
        }
        if (halves >= 100) {
            return 3;
        }
        int times = 0;
        for (String key : before) {
            times += key.equals(key()) ? 1 : 0;
        }
        return times >= 2 ? 4 : isBare() ? 5 : 0;
    }

    int worth() {
        int sum = 0;
        for (int square = 0; square < 64; square++) {
            int man = men[square];
            if (man != 0) {
                int r = rank(square, sideOf(man));
                int e = Math.min(square % 8, 7 - square % 8);
                int m = e + Math.min(r, 7 - r);
                int[] worths = {
                    0, 100 + 4 * r + 2 * e, 320 + 6 * m, 330 + 4 * m, 500 + (r == 6 ? 20 : 0), 900 + 2 * m, -3 * m
                };
                sum += sideOf(man) == mover ? worths[Math.abs(man)] : -worths[Math.abs(man)];
            }
        }
        return sum;
    }

    int value(int n) {
        if (n == 0) {
            return worth();
        }
        List<Move> moves = moves();
        if (moves.isEmpty()) {
            return inCheck(mover) ? -30000 - n : 0;
        }
        return halves >= 100 || isBare() ? 0 : -leastBehind(moves, n);
    }

    private int leastBehind(List<Move> moves, int n) {
        int least = Integer.MAX_VALUE;
        for (Move move : moves) {
            PlainBoard behind = copy();
            behind.makeLoosely(move);
            least = Math.min(least, behind.value(n - 1));
        }
        return least;
    }

    /** The move that a search chooses, or null. */
    Move choice(int n) {
        List<Move> moves = moves();
        int least = moves.isEmpty() ? 0 : leastBehind(moves, n);
        for (Move move : moves) {
            PlainBoard behind = copy();
            behind.makeLoosely(move);
            if (behind.value(n - 1) == least) {
                return move;
            }
        }
        return null;
    }

    int ways(int n) {
        if (n == 0) {
            return 1;
        }
        int sum = 0;
        for (Move move : moves()) {
            PlainBoard behind = copy();
            behind.makeLoosely(move);
            sum += behind.ways(n - 1);
        }
        return sum;
    }

    /** What must be the same for THRICE. */
    String key() {
        String text = written();
        String withoutNumber = text.substring(0, text.lastIndexOf(' '));
        return withoutNumber.substring(0, withoutNumber.lastIndexOf(' '));
    }

    String written() {
        StringBuilder rows = new StringBuilder();
        for (int row = 7; row >= 0; row--) {
            for (int column = 0; column < 8; column++) {
                int man = men[8 * row + column];
                rows.append(man == 0 ? '1' : man > 0 ? " PNBRQK".charAt(man) : " pnbrqk".charAt(-man));
            }
            rows.append(row > 0 ? "/" : "");
        }
        String text = rows.toString();
        for (int free = 8; free > 1; free--) {
            text = text.replace("1".repeat(free), "" + free);
        }
        String allowed = "";
        for (int k = 0; k < 4; k++) {
            allowed += (rights >> k & 1) == 1 ? "KQkq".substring(k, k + 1) : "";
        }
        return text + (mover == 0 ? " w " : " b ") + (allowed.isEmpty() ? "-" : allowed) + " "
                + (passed < 0 ? "-" : Checks.name(passed)) + " " + halves + " " + number;
    }
}
