/**
 * The board of sixty-four squares with its six kinds of men, its laws, its way to write a position
 * in letters, and a search for the best move, a fixed number of moves deep.
 *
 * <p>Sets of squares are held as the bits of a long: bit s is square s. Rows of moves, levels of the
 * search and what can be taken back are made once in the constructor, so that no call but one that
 * throws makes an object.
 */
public final class KingsBoard {
    public static final int NONE = -1;

    private static final int WHITE = 0;
    private static final int BLACK = 1;

    private static final int PAWN = 1;
    private static final int KNIGHT = 2;
    private static final int BISHOP = 3;
    private static final int ROOK = 4;
    private static final int QUEEN = 5;
    private static final int KING = 6;

    private static final int SQUARES = 64;
    private static final int ALL_RIGHTS = 15;
    private static final int DEEPEST = 3;

    // Fifteen queens with 27 squares each and a king with ten moves stay below this.
    private static final int MOST_MOVES = 512;

    // As many can be typed; what is written is always shorter.
    private static final int CHARACTERS = 128;
    private static final String MAN_LETTERS = "PNBRQKpnbrqk";
    private static final String RIGHT_LETTERS = "KQkq";

    private static final int MATE = 1;
    private static final int STALE = 2;
    private static final int FIFTY = 3;
    private static final int THRICE = 4;
    private static final int BARE = 5;

    private final Position now;
    private final Position draft;
    private final Laws laws;
    private final Scale scale;
    private final Searcher searcher;
    private final Reader reader;
    private final Scribe scribe;
    private final History history;
    private final int[] row;
    private int faultPlace;
    private int pick;

    public KingsBoard() {
        now = new Position();
        draft = new Position();
        laws = new Laws();
        scale = new Scale();
        searcher = new Searcher(laws, scale);
        reader = new Reader();
        scribe = new Scribe();
        history = new History();
        row = new int[MOST_MOVES];
        faultPlace = NONE;
        pick = NONE;
        now.begin();
    }

    public int type(long w, int n) throws IllegalArgumentException, IllegalStateException {
        if (n < 1 || n > 8 || !Reader.isPlain(w, n)) {
            throw new IllegalArgumentException("not 1 to 8 characters of 32 to 126");
        }
        if (!reader.hasRoom(n)) {
            throw new IllegalStateException("no room for these characters");
        }
        return reader.add(w, n);
    }

    public int read() {
        draft.clear();
        boolean isWellWritten = reader.parse(draft);
        faultPlace = isWellWritten ? NONE : reader.at;
        reader.forget();
        int fault = isWellWritten ? laws.faultOf(draft) : 1;
        if (fault != 0) {
            return fault;
        }
        laws.settlePassed(draft);
        now.copyFrom(draft);
        history.forget();
        return 0;
    }

    public int place() {
        return faultPlace;
    }

    public int write() {
        return scribe.copyOut(now);
    }

    public int written(int i) throws IndexOutOfBoundsException {
        if (i < 0 || i >= scribe.count) {
            throw new IndexOutOfBoundsException("there is no such character");
        }
        return scribe.characters[i];
    }

    public int man(int square) throws IndexOutOfBoundsException {
        needSquare(square);
        return now.manAt(square);
    }

    public int about(int what) throws IllegalArgumentException {
        switch (what) {
            case 0:
                return now.mover;
            case 1:
                return now.rights;
            case 2:
                return now.passed;
            case 3:
                return now.halves;
            case 4:
                return now.number;
            case 5:
                return laws.isInCheck(now, now.mover) ? 1 : 0;
            default:
                throw new IllegalArgumentException("what is not 0 to 5");
        }
    }

    public int state() {
        if (laws.count(now) == 0) {
            return laws.isInCheck(now, now.mover) ? MATE : STALE;
        }
        if (now.isFifty()) {
            return FIFTY;
        }
        if (history.countLike(now) >= 2) {
            return THRICE;
        }
        return now.isBare() ? BARE : 0;
    }

    public boolean attacked(int square, int side)
            throws IndexOutOfBoundsException, IllegalArgumentException {
        needSquare(square);
        if (side != WHITE && side != BLACK) {
            throw new IllegalArgumentException("there is no such side");
        }
        return laws.isReached(now, square, side);
    }

    public int moves() {
        return laws.count(now);
    }

    public int move(int i, int what) throws IndexOutOfBoundsException, IllegalArgumentException {
        int count = laws.list(now, row);
        if (i < 0 || i >= count) {
            throw new IndexOutOfBoundsException("there is no such move");
        }
        needPart(what);
        return partOf(row[i], what);
    }

    public int play(int from, int to, int becomes)
            throws IndexOutOfBoundsException, IllegalStateException {
        needSquare(from);
        needSquare(to);
        if (!isLegal(from, to, becomes)) {
            throw new IllegalStateException("there is no such legal move");
        }
        if (history.isFull()) {
            throw new IllegalStateException("there are too many moves to take back");
        }
        int step = packed(from, to, becomes);
        int taken = now.manAt(now.squareTaken(step));
        history.keep(now);
        now.apply(step);
        laws.settlePassed(now);
        return taken;
    }

    public int back() throws IllegalStateException {
        if (history.count == 0) {
            throw new IllegalStateException("there is no move to take back");
        }
        history.restore(now);
        return history.count;
    }

    public int ways(int depth) throws IllegalArgumentException {
        if (depth < 0 || depth > DEEPEST) {
            throw new IllegalArgumentException("depth is not 0 to 3");
        }
        return searcher.countWays(now, depth);
    }

    public int worth() {
        return scale.weigh(now);
    }

    public int search(int depth) throws IllegalArgumentException {
        if (depth < 1 || depth > DEEPEST) {
            throw new IllegalArgumentException("depth is not 1 to 3");
        }
        int value = searcher.choose(now, depth);
        pick = searcher.best;
        return value;
    }

    public int chosen(int what) throws IllegalArgumentException {
        needPart(what);
        return pick == NONE ? NONE : partOf(pick, what);
    }

    private boolean isLegal(int from, int to, int becomes) {
        if (becomes < 0 || becomes > QUEEN) {
            return false;
        }
        int wanted = packed(from, to, becomes);
        int count = laws.list(now, row);
        for (int i = 0; i < count; i++) {
            if (row[i] == wanted) {
                return true;
            }
        }
        return false;
    }

    private static void needSquare(int square) {
        if (square < 0 || square >= SQUARES) {
            throw new IndexOutOfBoundsException("there is no such square");
        }
    }

    private static void needPart(int what) {
        if (what < 0 || what > 2) {
            throw new IllegalArgumentException("what is not 0 to 2");
        }
    }

    // A move is one number whose order is the document's: from, then to, then what a pawn becomes.
    private static int packed(int from, int to, int becomes) {
        return from << 9 | to << 3 | becomes;
    }

    private static int fromOf(int step) {
        return step >> 9 & 63;
    }

    private static int toOf(int step) {
        return step >> 3 & 63;
    }

    private static int becomesOf(int step) {
        return step & 7;
    }

    private static int partOf(int step, int what) {
        if (what == 0) {
            return fromOf(step);
        }
        return what == 1 ? toOf(step) : becomesOf(step);
    }

    // The mask keeps the answer a square even for an empty set.
    private static int lowest(long squares) {
        return Long.bitCount((squares & -squares) - 1) & 63;
    }

    private static boolean holds(long squares, int square) {
        return (squares >>> square & 1L) != 0;
    }

    /** The men on the squares, and all else that belongs to a position. */
    private static final class Position {
        private static final int[] BACK_RANK = {
            ROOK, KNIGHT, BISHOP, QUEEN, KING, BISHOP, KNIGHT, ROOK
        };
        private static final long EVEN_SQUARES = 0xAA55AA55AA55AA55L;

        final long[] ofSide = new long[2];
        final long[] ofKind = new long[KING + 1];
        int mover;
        int rights;
        int passed;
        int halves;
        int number;

        void clear() {
            for (int side = WHITE; side <= BLACK; side++) {
                ofSide[side] = 0;
            }
            for (int kind = 0; kind <= KING; kind++) {
                ofKind[kind] = 0;
            }
            mover = WHITE;
            rights = 0;
            passed = NONE;
            halves = 0;
            number = 1;
        }

        void begin() {
            clear();
            rights = ALL_RIGHTS;
            for (int column = 0; column < 8; column++) {
                put(BACK_RANK[column], WHITE, column);
                put(PAWN, WHITE, 8 + column);
                put(PAWN, BLACK, 48 + column);
                put(BACK_RANK[column], BLACK, 56 + column);
            }
        }

        void copyFrom(Position other) {
            System.arraycopy(other.ofSide, 0, ofSide, 0, ofSide.length);
            System.arraycopy(other.ofKind, 0, ofKind, 0, ofKind.length);
            mover = other.mover;
            rights = other.rights;
            passed = other.passed;
            halves = other.halves;
            number = other.number;
        }

        void put(int kind, int side, int square) {
            ofSide[side] |= 1L << square;
            ofKind[kind] |= 1L << square;
        }

        void lift(int kind, int side, int square) {
            ofSide[side] &= ~(1L << square);
            ofKind[kind] &= ~(1L << square);
        }

        long everyone() {
            return ofSide[WHITE] | ofSide[BLACK];
        }

        int kindAt(int square) {
            for (int kind = PAWN; kind <= KING; kind++) {
                if (holds(ofKind[kind], square)) {
                    return kind;
                }
            }
            return 0;
        }

        int manAt(int square) {
            int kind = kindAt(square);
            return holds(ofSide[BLACK], square) ? -kind : kind;
        }

        // One down from a PASSED square is the other row of its pair for both sides: 5 and 4, 2 and 3.
        int squareTaken(int step) {
            int to = toOf(step);
            return to == passed && holds(ofKind[PAWN], fromOf(step)) ? to ^ 8 : to;
        }

        /**
         * Makes a legal move. The square that a pawn passes is kept even if nobody can take there:
         * that changes no legal move, and whoever shows the position settles it.
         */
        void apply(int step) {
            int from = fromOf(step);
            int to = toOf(step);
            int becomes = becomesOf(step);
            int kind = kindAt(from);
            int takenSquare = squareTaken(step);
            int taken = kindAt(takenSquare);
            lift(taken, 1 - mover, takenSquare);
            lift(kind, mover, from);
            put(becomes == 0 ? kind : becomes, mover, to);
            int distance = Math.abs(to - from);
            if (kind == KING && distance == 2) {
                bringRook(to);
            }
            rights &= ~(rightsOf(from) | rightsOf(to));
            passed = kind == PAWN && distance == 16 ? (from + to) / 2 : NONE;
            halves = kind == PAWN || taken != 0 ? 0 : halves + 1;
            number += mover;
            mover = 1 - mover;
        }

        private void bringRook(int kingSquare) {
            boolean isShort = (kingSquare & 7) == 6;
            lift(ROOK, mover, isShort ? kingSquare + 1 : kingSquare - 2);
            put(ROOK, mover, isShort ? kingSquare - 1 : kingSquare + 1);
        }

        private static int rightsOf(int square) {
            switch (square) {
                case 0:
                    return 2;
                case 4:
                    return 3;
                case 7:
                    return 1;
                case 56:
                    return 8;
                case 60:
                    return 12;
                case 63:
                    return 4;
                default:
                    return 0;
            }
        }

        boolean isFifty() {
            return halves >= 100;
        }

        boolean isBare() {
            if ((ofKind[PAWN] | ofKind[ROOK] | ofKind[QUEEN]) != 0) {
                return false;
            }
            long knights = ofKind[KNIGHT];
            long bishops = ofKind[BISHOP];
            if (knights != 0) {
                return bishops == 0 && Long.bitCount(knights) == 1;
            }
            return (bishops & EVEN_SQUARES) == 0 || (bishops & ~EVEN_SQUARES) == 0;
        }
    }

    /** Where men reach. */
    private static final class Reach {
        static final int DIRECTIONS = 8;
        static final int FIRST_SLANT = 4;

        // Along rows and columns first, then the slants; even directions go to greater squares.
        private static final int[] ROW_STEPS = {0, 0, 1, -1, 1, -1, 1, -1};
        private static final int[] COLUMN_STEPS = {1, -1, 0, 0, 1, -1, -1, 1};
        private static final int[] KNIGHT_ROWS = {2, 2, 1, 1, -1, -1, -2, -2};
        private static final int[] KNIGHT_COLUMNS = {1, -1, 2, -2, 2, -2, 1, -1};

        private final long[] rays = new long[DIRECTIONS * SQUARES];
        private final long[] knights = new long[SQUARES];
        private final long[] kings = new long[SQUARES];
        private final long[] pawns = new long[2 * SQUARES];

        Reach() {
            for (int square = 0; square < SQUARES; square++) {
                for (int k = 0; k < DIRECTIONS; k++) {
                    rays[k * SQUARES + square] = ray(square, k);
                    kings[square] |= beside(square, ROW_STEPS[k], COLUMN_STEPS[k]);
                    knights[square] |= beside(square, KNIGHT_ROWS[k], KNIGHT_COLUMNS[k]);
                }
                pawns[square] = beside(square, 1, -1) | beside(square, 1, 1);
                pawns[SQUARES + square] = beside(square, -1, -1) | beside(square, -1, 1);
            }
        }

        private static long beside(int square, int rows, int columns) {
            int row = square / 8 + rows;
            int column = square % 8 + columns;
            boolean isOnBoard = row >= 0 && row < 8 && column >= 0 && column < 8;
            return isOnBoard ? 1L << 8 * row + column : 0;
        }

        private static long ray(int square, int direction) {
            long squares = 0;
            for (int far = 1; far < 8; far++) {
                squares |= beside(square, far * ROW_STEPS[direction], far * COLUMN_STEPS[direction]);
            }
            return squares;
        }

        long byPawn(int square, int side) {
            return pawns[side * SQUARES + square];
        }

        long byKing(int square) {
            return kings[square];
        }

        /** The whole ray from one square on which the other one lies; none if there is no such ray. */
        long rayThrough(int square, int other) {
            for (int k = 0; k < DIRECTIONS; k++) {
                if (holds(rays[k * SQUARES + square], other)) {
                    return rays[k * SQUARES + square];
                }
            }
            return 0;
        }

        /** Along the directions first to end - 1, up to the first man in each, his square too. */
        long lines(int square, long men, int first, int end) {
            long squares = 0;
            for (int k = first; k < end; k++) {
                long ray = rays[k * SQUARES + square];
                long stops = ray & men;
                // To greater squares the lowest stop is the first one; to lesser ones it is the highest,
                // which is found by filling all bits below it.
                if (stops == 0) {
                    squares |= ray;
                } else if ((k & 1) == 0) {
                    squares |= ray & (stops ^ stops - 1);
                } else {
                    stops |= stops >>> 1;
                    stops |= stops >>> 2;
                    stops |= stops >>> 4;
                    stops |= stops >>> 8;
                    stops |= stops >>> 16;
                    stops |= stops >>> 32;
                    squares |= ray & ~(stops >>> 1);
                }
            }
            return squares;
        }

        /** Where a man who is no pawn reaches. */
        long byKind(int kind, int square, long men) {
            switch (kind) {
                case KNIGHT:
                    return knights[square];
                case BISHOP:
                    return lines(square, men, FIRST_SLANT, DIRECTIONS);
                case ROOK:
                    return lines(square, men, 0, FIRST_SLANT);
                case QUEEN:
                    return lines(square, men, 0, DIRECTIONS);
                default:
                    return kings[square];
            }
        }

        /** All squares that one side reaches. */
        long bySide(Position p, int side, long men) {
            long squares = 0;
            for (int kind = PAWN; kind <= KING; kind++) {
                long left = p.ofSide[side] & p.ofKind[kind];
                int count = Long.bitCount(left);
                for (int k = 0; k < count; k++) {
                    int square = lowest(left);
                    left &= left - 1;
                    squares |= kind == PAWN ? byPawn(square, side) : byKind(kind, square, men);
                }
            }
            return squares;
        }

        /** The men of one side that reach a square: those that a like man there would reach. */
        long attackers(Position p, int square, int side, long men) {
            long found = byPawn(square, 1 - side) & p.ofKind[PAWN];
            found |= knights[square] & p.ofKind[KNIGHT];
            found |= kings[square] & p.ofKind[KING];
            found |= lines(square, men, 0, FIRST_SLANT) & (p.ofKind[ROOK] | p.ofKind[QUEEN]);
            found |= lines(square, men, FIRST_SLANT, DIRECTIONS) & (p.ofKind[BISHOP] | p.ofKind[QUEEN]);
            return found & p.ofSide[side];
        }
    }

    /** The legal moves of a position, and what makes a position wrong. */
    private static final class Laws {
        private static final long EDGE_ROWS = 0xFF000000000000FFL;
        private static final long ROW_2 = 0xFFL << 16;
        private static final long ROW_5 = 0xFFL << 40;
        private static final int[] RIGHT_KINGS = {4, 4, 60, 60};
        private static final int[] RIGHT_ROOKS = {7, 0, 63, 56};

        private final Reach reach = new Reach();

        // What study() has found out of the position whose moves are looked for.
        private Position seen;
        private int side;
        private int king;
        private long own;
        private long foes;
        private long men;
        private long danger;
        private long answers;
        private long pinned;

        Laws() {
            seen = new Position();
            seen.clear();
        }

        boolean isReached(Position p, int square, int bySide) {
            return reach.attackers(p, square, bySide, p.everyone()) != 0;
        }

        boolean isInCheck(Position p, int ofSide) {
            int square = lowest(p.ofSide[ofSide] & p.ofKind[KING]);
            return isReached(p, square, 1 - ofSide);
        }

        int list(Position p, int[] row) {
            study(p);
            int count = 0;
            long left = own;
            int walkers = Long.bitCount(left);
            for (int k = 0; k < walkers; k++) {
                int from = lowest(left);
                left &= left - 1;
                count = addMoves(row, count, from, targets(from));
            }
            return count;
        }

        int count(Position p) {
            study(p);
            int count = 0;
            long left = own;
            int walkers = Long.bitCount(left);
            for (int k = 0; k < walkers; k++) {
                int from = lowest(left);
                left &= left - 1;
                long targets = targets(from);
                count += Long.bitCount(targets);
                if (holds(p.ofKind[PAWN], from)) {
                    count += (QUEEN - KNIGHT) * Long.bitCount(targets & EDGE_ROWS);
                }
            }
            return count;
        }

        /** A PASSED square by which there is no legal move is none. */
        void settlePassed(Position p) {
            if (p.passed == NONE) {
                return;
            }
            study(p);
            long left = own & p.ofKind[PAWN] & reach.byPawn(p.passed, 1 - side);
            int walkers = Long.bitCount(left);
            for (int k = 0; k < walkers; k++) {
                if (passedTarget(lowest(left)) != 0) {
                    return;
                }
                left &= left - 1;
            }
            p.passed = NONE;
        }

        int faultOf(Position p) {
            if (isWrongCount(p, WHITE) || isWrongCount(p, BLACK)) {
                return 2;
            }
            if ((p.ofKind[PAWN] & EDGE_ROWS) != 0) {
                return 3;
            }
            if (isInCheck(p, 1 - p.mover)) {
                return 4;
            }
            if (hasWrongRight(p)) {
                return 5;
            }
            return p.passed != NONE && isWrongPassed(p) ? 6 : 0;
        }

        private static boolean isWrongCount(Position p, int ofSide) {
            long all = p.ofSide[ofSide];
            return Long.bitCount(all & p.ofKind[KING]) != 1 || Long.bitCount(all) > 16;
        }

        private static boolean hasWrongRight(Position p) {
            for (int k = 0; k < RIGHT_KINGS.length; k++) {
                int sign = k < 2 ? 1 : -1;
                boolean stands = p.manAt(RIGHT_KINGS[k]) == sign * KING
                        && p.manAt(RIGHT_ROOKS[k]) == sign * ROOK;
                if ((p.rights >> k & 1) != 0 && !stands) {
                    return true;
                }
            }
            return false;
        }

        private static boolean isWrongPassed(Position p) {
            boolean isWhite = p.mover == WHITE;
            if (p.passed / 8 != (isWhite ? 5 : 2)) {
                return true;
            }
            int up = isWhite ? 8 : -8;
            int otherPawn = isWhite ? -PAWN : PAWN;
            return p.manAt(p.passed) != 0
                    || p.manAt(p.passed + up) != 0
                    || p.manAt(p.passed - up) != otherPawn;
        }

        private void study(Position p) {
            seen = p;
            side = p.mover;
            own = p.ofSide[side];
            foes = p.ofSide[1 - side];
            men = own | foes;
            king = lowest(own & p.ofKind[KING]);
            // The king hides no square from a man that he flees, so he is left out.
            danger = reach.bySide(p, 1 - side, men & ~(1L << king));
            answers = holds(danger, king) ? answersToCheck() : -1L;
            pinned = findPinned();
        }

        /**
         * The squares on which a man other than the king ends a check. (Two rays that meet hold what is
         * between their ends; a knight is on no ray.)
         */
        private long answersToCheck() {
            long attackers = reach.attackers(seen, king, 1 - side, men);
            if (Long.bitCount(attackers) != 1) {
                return 0;
            }
            int attacker = lowest(attackers);
            return attackers | reach.rayThrough(king, attacker) & reach.rayThrough(attacker, king);
        }

        private long findPinned() {
            long found = 0;
            for (int k = 0; k < Reach.DIRECTIONS; k++) {
                int kind = k < Reach.FIRST_SLANT ? ROOK : BISHOP;
                long hunters = foes & (seen.ofKind[kind] | seen.ofKind[QUEEN]);
                long shield = reach.lines(king, men, k, k + 1) & own;
                if (shield != 0 && (reach.lines(king, men & ~shield, k, k + 1) & hunters) != 0) {
                    found |= shield;
                }
            }
            return found;
        }

        private long targets(int from) {
            if (from == king) {
                return reach.byKing(king) & ~own & ~danger | castlings();
            }
            boolean isPawn = holds(seen.ofKind[PAWN], from);
            long found = isPawn ? pawnSteps(from) : reach.byKind(seen.kindAt(from), from, men) & ~own;
            found &= answers;
            if (holds(pinned, from)) {
                found &= reach.rayThrough(king, from);
            }
            return isPawn ? found | passedTarget(from) : found;
        }

        private long pawnSteps(int from) {
            long bit = 1L << from;
            long takes = reach.byPawn(from, side) & foes;
            if (side == WHITE) {
                long one = bit << 8 & ~men;
                return takes | one | (one & ROW_2) << 8 & ~men;
            }
            long one = bit >>> 8 & ~men;
            return takes | one | (one & ROW_5) >>> 8 & ~men;
        }

        // Two men leave their row at once here, so the king is looked at behind the move.
        private long passedTarget(int from) {
            int passed = seen.passed;
            if (passed == NONE || !holds(reach.byPawn(from, side), passed)) {
                return 0;
            }
            long target = 1L << passed;
            long taken = 1L << (passed ^ 8);
            long left = men & ~(1L << from) & ~taken | target;
            long attackers = reach.attackers(seen, king, 1 - side, left) & ~taken;
            return attackers == 0 ? target : 0;
        }

        private long castlings() {
            int rights = seen.rights >> 2 * side & 3;
            if (rights == 0 || holds(danger, king)) {
                return 0;
            }
            long found = 0;
            long shortWay = 3L << king + 1;
            if ((rights & 1) != 0 && (shortWay & (men | danger)) == 0) {
                found |= 1L << king + 2;
            }
            long longWay = 3L << king - 2;
            long besideRook = 1L << king - 3;
            if ((rights & 2) != 0 && (longWay & (men | danger)) == 0 && (besideRook & men) == 0) {
                found |= 1L << king - 2;
            }
            return found;
        }

        private int addMoves(int[] row, int count, int from, long targets) {
            boolean isPawn = holds(seen.ofKind[PAWN], from);
            int end = count;
            long left = targets;
            int goals = Long.bitCount(left);
            for (int k = 0; k < goals; k++) {
                int to = lowest(left);
                left &= left - 1;
                boolean isLast = isPawn && holds(EDGE_ROWS, to);
                int most = isLast ? QUEEN : 0;
                for (int becomes = isLast ? KNIGHT : 0; becomes <= most; becomes++) {
                    if (end < row.length) {
                        row[end] = packed(from, to, becomes);
                        end++;
                    }
                }
            }
            return end;
        }
    }

    /** What men and positions are worth. */
    private static final class Scale {
        // By kind and square as WHITE sees it.
        private final int[] worths = new int[(KING + 1) * SQUARES];

        Scale() {
            for (int kind = PAWN; kind <= KING; kind++) {
                for (int square = 0; square < SQUARES; square++) {
                    worths[kind * SQUARES + square] = rate(kind, square / 8, square % 8);
                }
            }
        }

        private static int rate(int kind, int rank, int column) {
            int edge = Math.min(column, 7 - column);
            int middle = edge + Math.min(rank, 7 - rank);
            switch (kind) {
                case PAWN:
                    return 100 + 4 * rank + 2 * edge;
                case KNIGHT:
                    return 320 + 6 * middle;
                case BISHOP:
                    return 330 + 4 * middle;
                case ROOK:
                    return rank == 6 ? 520 : 500;
                case QUEEN:
                    return 900 + 2 * middle;
                default:
                    return -3 * middle;
            }
        }

        private int worthAt(int kind, int side, int square) {
            return worths[kind * SQUARES + (side == WHITE ? square : square ^ 56)];
        }

        int weigh(Position p) {
            return sum(p, p.mover) - sum(p, 1 - p.mover);
        }

        private int sum(Position p, int side) {
            int sum = 0;
            for (int kind = PAWN; kind <= KING; kind++) {
                long left = p.ofSide[side] & p.ofKind[kind];
                int count = Long.bitCount(left);
                for (int k = 0; k < count; k++) {
                    sum += worthAt(kind, side, lowest(left));
                    left &= left - 1;
                }
            }
            return sum;
        }

        /** What a move adds for its side. (A rook that his king passes is worth the same behind it.) */
        int gain(Position p, int step) {
            int side = p.mover;
            int kind = p.kindAt(fromOf(step));
            int becomes = becomesOf(step);
            int takenSquare = p.squareTaken(step);
            return worthAt(becomes == 0 ? kind : becomes, side, toOf(step))
                    - worthAt(kind, side, fromOf(step))
                    + worthAt(p.kindAt(takenSquare), 1 - side, takenSquare);
        }
    }

    /** Goes through the positions behind a position; level n is the one with n moves still to come. */
    private static final class Searcher {
        private static final int MATE_VALUE = -30000;
        // Less than 0 less this no value can be.
        private static final int BEYOND = 1000000;

        private final Laws laws;
        private final Scale scale;
        private final Position[] levels = new Position[DEEPEST + 1];
        private final int[][] rows = new int[DEEPEST + 1][MOST_MOVES];
        int best = NONE;

        Searcher(Laws laws, Scale scale) {
            this.laws = laws;
            this.scale = scale;
            for (int n = 0; n <= DEEPEST; n++) {
                levels[n] = new Position();
            }
        }

        int countWays(Position start, int depth) {
            levels[depth].copyFrom(start);
            return waysFrom(depth);
        }

        private int waysFrom(int n) {
            if (n <= 0 || n > DEEPEST) {
                return 1;
            }
            if (n == 1) {
                return laws.count(levels[1]);
            }
            int count = laws.list(levels[n], rows[n]);
            int sum = 0;
            for (int i = 0; i < count; i++) {
                descend(n, rows[n][i]);
                sum += waysFrom(n - 1);
            }
            return sum;
        }

        private void descend(int n, int step) {
            levels[n - 1].copyFrom(levels[n]);
            levels[n - 1].apply(step);
        }

        /** The value of a position; best is then the first of the moves that are best, or NONE. */
        int choose(Position start, int depth) {
            levels[depth].copyFrom(start);
            best = NONE;
            int count = laws.list(start, rows[depth]);
            if (count == 0) {
                return valueWithoutMoves(start, depth);
            }
            int most = -BEYOND;
            for (int i = 0; i < count; i++) {
                descend(depth, rows[depth][i]);
                int value = -valueOf(depth - 1, -BEYOND, -most);
                if (value > most) {
                    most = value;
                    best = rows[depth][i];
                }
            }
            return isDrawn(start) ? 0 : most;
        }

        /**
         * The value of level n where it lies between low and high; else one that is not above low, or
         * not below high, which is all that whoever asks must know then.
         */
        private int valueOf(int n, int low, int high) {
            if (n <= 0 || n > DEEPEST) {
                return scale.weigh(levels[0]);
            }
            Position here = levels[n];
            int count = laws.list(here, rows[n]);
            if (count == 0) {
                return valueWithoutMoves(here, n);
            }
            if (isDrawn(here)) {
                return 0;
            }
            if (n == 1) {
                return bestGain(here, count, high);
            }
            int most = low;
            for (int i = 0; i < count && most < high; i++) {
                descend(n, rows[n][i]);
                most = Math.max(most, -valueOf(n - 1, -high, -most));
            }
            return most;
        }

        private int bestGain(Position here, int count, int high) {
            int base = scale.weigh(here);
            int most = -BEYOND;
            for (int i = 0; i < count && most < high; i++) {
                most = Math.max(most, base + scale.gain(here, rows[1][i]));
            }
            return most;
        }

        private int valueWithoutMoves(Position p, int n) {
            return laws.isInCheck(p, p.mover) ? MATE_VALUE - n : 0;
        }

        private static boolean isDrawn(Position p) {
            return p.isFifty() || p.isBare();
        }
    }

    /** The positions before the moves that can be taken back, five numbers each. */
    private static final class History {
        private static final int MOST = 1024;
        private static final int WIDTH = 5;
        private static final int PLANES = 3;
        // Side to move, RIGHTS and PASSED square are the lowest bits of the fifth number.
        private static final long LIKENESS = 0xFFFL;

        private final long[] rows = new long[MOST * WIDTH];
        int count;

        void forget() {
            count = 0;
        }

        boolean isFull() {
            return count >= MOST;
        }

        void keep(Position p) {
            if (isFull()) {
                return;
            }
            int at = count * WIDTH;
            for (int bit = 0; bit < PLANES; bit++) {
                rows[at + bit] = plane(p, bit);
            }
            rows[at + PLANES] = p.ofSide[BLACK];
            rows[at + PLANES + 1] = rest(p);
            count++;
        }

        void restore(Position p) {
            if (count <= 0) {
                return;
            }
            count--;
            int at = count * WIDTH;
            for (int kind = PAWN; kind <= KING; kind++) {
                long squares = -1L;
                for (int bit = 0; bit < PLANES; bit++) {
                    squares &= (kind >> bit & 1) != 0 ? rows[at + bit] : ~rows[at + bit];
                }
                p.ofKind[kind] = squares;
            }
            p.ofSide[BLACK] = rows[at + PLANES];
            p.ofSide[WHITE] = (rows[at] | rows[at + 1] | rows[at + 2]) & ~rows[at + PLANES];
            long rest = rows[at + PLANES + 1];
            p.mover = (int) (rest & 1);
            p.rights = (int) (rest >> 1 & ALL_RIGHTS);
            p.passed = (int) (rest >> 5 & 127) + NONE;
            p.halves = (int) (rest >> 12 & 0xFFFFFF);
            p.number = (int) (rest >> 36 & 0xFFFFFF);
        }

        int countLike(Position p) {
            int like = 0;
            for (int i = 0; i < count; i++) {
                if (isLike(p, i * WIDTH)) {
                    like++;
                }
            }
            return like;
        }

        private boolean isLike(Position p, int at) {
            for (int bit = 0; bit < PLANES; bit++) {
                if (rows[at + bit] != plane(p, bit)) {
                    return false;
                }
            }
            return rows[at + PLANES] == p.ofSide[BLACK]
                    && ((rows[at + PLANES + 1] ^ rest(p)) & LIKENESS) == 0;
        }

        /** The squares of the men whose kind's number has this bit. */
        private static long plane(Position p, int bit) {
            long squares = 0;
            for (int kind = PAWN; kind <= KING; kind++) {
                if ((kind >> bit & 1) != 0) {
                    squares |= p.ofKind[kind];
                }
            }
            return squares;
        }

        private static long rest(Position p) {
            long likeness = p.mover | p.rights << 1 | p.passed - NONE << 5;
            return likeness | (long) p.halves << 12 | (long) p.number << 36;
        }
    }

    /** The characters typed, and how they are read as a position. */
    private static final class Reader {
        private static final int DIGITS = 4;

        private final char[] typed = new char[CHARACTERS];
        private int count;
        // Behind parse(): the place of the first character that can't be there.
        int at;

        static boolean isPlain(long w, int n) {
            for (int k = 0; k < n; k++) {
                long character = w >>> 8 * k & 255;
                if (character < 32 || character > 126) {
                    return false;
                }
            }
            return true;
        }

        boolean hasRoom(int n) {
            return count + n <= CHARACTERS;
        }

        int add(long w, int n) {
            for (int k = 0; k < n && count < CHARACTERS; k++) {
                typed[count] = (char) (w >>> 8 * k & 255);
                count++;
            }
            return count;
        }

        void forget() {
            count = 0;
        }

        boolean parse(Position p) {
            at = 0;
            return parseMen(p)
                    && skip(' ')
                    && parseMover(p)
                    && skip(' ')
                    && parseRights(p)
                    && skip(' ')
                    && parsePassed(p)
                    && skip(' ')
                    && parseHalves(p)
                    && skip(' ')
                    && parseNumber(p)
                    && at == count;
        }

        // 0 stands for the end: it can't be typed.
        private char look() {
            return at < count && at < CHARACTERS ? typed[at] : 0;
        }

        private boolean skip(char wanted) {
            if (look() != wanted) {
                return false;
            }
            at++;
            return true;
        }

        private boolean parseMen(Position p) {
            for (int row = 7; row >= 0; row--) {
                if (row < 7 && !skip('/') || !parseRow(p, row)) {
                    return false;
                }
            }
            return true;
        }

        private boolean parseRow(Position p, int row) {
            int column = 0;
            boolean isBehindDigit = false;
            for (int turn = 0; turn < 8 && column < 8; turn++) {
                char next = look();
                boolean isDigit = next >= '1' && next <= '8';
                int width = isDigit ? next - '0' : 1;
                int which = MAN_LETTERS.indexOf(next);
                boolean fits = isDigit ? !isBehindDigit && column + width <= 8 : which >= 0;
                if (!fits) {
                    return false;
                }
                if (!isDigit) {
                    p.put(which % KING + 1, which / KING, 8 * row + column);
                }
                column += width;
                isBehindDigit = isDigit;
                at++;
            }
            return column == 8;
        }

        private boolean parseMover(Position p) {
            p.mover = look() == 'b' ? BLACK : WHITE;
            return skip(p.mover == BLACK ? 'b' : 'w');
        }

        private boolean parseRights(Position p) {
            if (skip('-')) {
                return true;
            }
            for (int k = 0; k < RIGHT_LETTERS.length(); k++) {
                if (skip(RIGHT_LETTERS.charAt(k))) {
                    p.rights |= 1 << k;
                }
            }
            return p.rights != 0;
        }

        private boolean parsePassed(Position p) {
            if (skip('-')) {
                return true;
            }
            int column = look() - 'a';
            if (column < 0 || column > 7) {
                return false;
            }
            at++;
            int row = look() - '1';
            if (row < 0 || row > 7) {
                return false;
            }
            at++;
            p.passed = 8 * row + column;
            return true;
        }

        private boolean parseHalves(Position p) {
            if (skip('0')) {
                p.halves = 0;
                return true;
            }
            p.halves = digits();
            return p.halves > 0;
        }

        private boolean parseNumber(Position p) {
            p.number = look() == '0' ? 0 : digits();
            return p.number > 0;
        }

        // No more than four are taken: a fifth would be above 9999, and is found where it can't be.
        private int digits() {
            int value = 0;
            for (int k = 0; k < DIGITS; k++) {
                char next = look();
                if (next < '0' || next > '9') {
                    return value;
                }
                value = 10 * value + next - '0';
                at++;
            }
            return value;
        }
    }

    /** The characters written. */
    private static final class Scribe {
        private static final int GREATEST_UNIT = 1000000000;

        final char[] characters = new char[CHARACTERS];
        int count;

        int copyOut(Position p) {
            count = 0;
            for (int row = 7; row >= 0; row--) {
                addRow(p, row);
                add(row > 0 ? '/' : ' ');
            }
            add(p.mover == WHITE ? 'w' : 'b');
            add(' ');
            addRights(p.rights);
            add(' ');
            addSquare(p.passed);
            add(' ');
            addNumber(p.halves);
            add(' ');
            addNumber(p.number);
            return count;
        }

        private void add(char character) {
            if (count < CHARACTERS) {
                characters[count] = character;
                count++;
            }
        }

        private void addRow(Position p, int row) {
            int free = 0;
            for (int column = 0; column < 8; column++) {
                int man = p.manAt(8 * row + column);
                if (man == 0) {
                    free++;
                } else {
                    addFree(free);
                    free = 0;
                    add(MAN_LETTERS.charAt(man > 0 ? man - 1 : KING - 1 - man));
                }
            }
            addFree(free);
        }

        private void addFree(int free) {
            if (free > 0) {
                add((char) ('0' + free));
            }
        }

        private void addRights(int rights) {
            if (rights == 0) {
                add('-');
            }
            for (int k = 0; k < RIGHT_LETTERS.length(); k++) {
                if ((rights >> k & 1) != 0) {
                    add(RIGHT_LETTERS.charAt(k));
                }
            }
        }

        private void addSquare(int square) {
            if (square == NONE) {
                add('-');
            } else {
                add((char) ('a' + square % 8));
                add((char) ('1' + square / 8));
            }
        }

        private void addNumber(int number) {
            boolean hasBegun = false;
            for (int unit = GREATEST_UNIT; unit > 0; unit /= 10) {
                int digit = number / unit % 10;
                hasBegun = hasBegun || digit != 0 || unit == 1;
                if (hasBegun) {
                    add((char) ('0' + digit));
                }
            }
        }
    }
}
