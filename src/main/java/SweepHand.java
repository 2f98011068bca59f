import java.util.NoSuchElementException;

/**
 * A hand that goes over a store of cells, piece by piece, while pieces are taken and given: what is
 * used and not marked comes to be free, neighbours become one, and what is taken meanwhile is never
 * lost.
 */
public final class SweepHand {
    private static final int FIRST_ADDRESS = 1;
    private static final int CELLS_AT_FIRST = 1024;
    private static final int LEAST_CELLS = 16;
    private static final int MOST_CELLS = 16384;
    private static final int LEAST_TAKEN = 3;
    private static final int MOST_TAKEN = 2000;
    private static final int MOST_STEPS = 5000;
    private static final int MOST_OF_A_CRUMB = 2;

    private static final int FREE_CELLS = 0;
    private static final int CRUMB_CELLS = 1;
    private static final int USED_PIECES = 2;
    private static final int FREE_PIECES = 3;
    private static final int CRUMBS = 4;
    private static final int GREATEST_FREE = 5;
    private static final int TAKES_IN_VAIN = 6;
    private static final int CELLS = 7;
    private static final int MARKED_PIECES = 8;
    private static final int SWEPT_PIECES = 9;
    private static final int ENDED_SWEEPS = 10;

    /** One piece; the pieces are a chain in the order of their addresses. */
    private static final class Piece {
        private final int begin;
        private int size;
        private boolean used;
        private boolean marked;
        private long freedAt;
        private Piece next;

        private Piece(int begin, int size, Piece next) {
            this.begin = begin;
            this.size = size;
            this.next = next;
        }

        private int end() {
            return begin + size;
        }

        private boolean isCrumb() {
            return !used && size <= MOST_OF_A_CRUMB;
        }

        private boolean isFreeForTaking() {
            return !used && size > MOST_OF_A_CRUMB;
        }

        private boolean isKeptBySweep() {
            return used && marked;
        }
    }

    private int cells;
    private Piece first;
    /**
     * The piece at which the hand is; null without a sweep. A piece keeps its object when it is cut
     * (as the lower part) or given, so the hand stays where it is by itself.
     */
    private Piece atHand;
    /** Counts how often a piece came to be free, so that no two free pieces have the same time. */
    private long freeings;
    private int takesInVain;
    private int sweptPieces;
    private int endedSweeps;

    public SweepHand() {
        startAnew(CELLS_AT_FIRST);
    }

    public int space(int n) throws IllegalArgumentException {
        if (n < LEAST_CELLS || n > MOST_CELLS) {
            throw new IllegalArgumentException("the number of cells is not 16 .. 16384");
        }
        int before = cells;
        startAnew(n);
        return before;
    }

    public int take(int size) throws IllegalArgumentException {
        if (size < LEAST_TAKEN || size > MOST_TAKEN) {
            throw new IllegalArgumentException("the size is not 3 .. 2000");
        }
        Piece piece = whatIsTakenFor(size);
        if (piece == null) {
            takesInVain++;
            return 0;
        }
        cutTo(piece, size);
        piece.used = true;
        piece.marked = atHand != null && piece.begin >= atHand.begin;
        return piece.begin;
    }

    public int give(int a) throws NoSuchElementException {
        Piece piece = usedPieceAt(a);
        comeToBeFree(piece);
        return piece.size;
    }

    public boolean mark(int a) throws NoSuchElementException, IllegalStateException {
        Piece piece = usedPieceAt(a);
        refuseDuringSweep();
        boolean isNew = !piece.marked;
        piece.marked = true;
        return isNew;
    }

    public int unmark() throws IllegalStateException {
        refuseDuringSweep();
        int gone = 0;
        for (Piece piece = first; piece != null; piece = piece.next) {
            if (piece.marked) {
                piece.marked = false;
                gone++;
            }
        }
        return gone;
    }

    public void begin() throws IllegalStateException {
        refuseDuringSweep();
        atHand = first;
    }

    public int sweep(int n) throws IllegalArgumentException {
        if (n < 0 || n > MOST_STEPS) {
            throw new IllegalArgumentException("the number of steps is not 0 .. 5000");
        }
        int steps = 0;
        while (steps < n && atHand != null) {
            stepFrom(atHand);
            steps++;
        }
        return steps;
    }

    public int hand() {
        return atHand == null ? 0 : atHand.begin;
    }

    public int piece(int a) {
        Piece piece = pieceAt(a);
        if (piece == null) {
            return 0;
        }
        return piece.used ? piece.size : -piece.size;
    }

    public boolean marked(int a) {
        Piece piece = pieceAt(a);
        return piece != null && piece.marked;
    }

    public int count(int what) throws IllegalArgumentException {
        switch (what) {
            case FREE_CELLS:
            case CRUMB_CELLS:
            case USED_PIECES:
            case FREE_PIECES:
            case CRUMBS:
            case MARKED_PIECES:
                return sumOverPieces(what);
            case GREATEST_FREE:
                return greatestFree();
            case TAKES_IN_VAIN:
                return takesInVain;
            case CELLS:
                return cells;
            case SWEPT_PIECES:
                return sweptPieces;
            case ENDED_SWEEPS:
                return endedSweeps;
            default:
                throw new IllegalArgumentException("what to count is not 0 .. 10");
        }
    }

    public int faults() {
        int wrong = 0;
        int due = FIRST_ADDRESS;
        boolean handIsMet = atHand == null;
        for (Piece piece = first; piece != null; piece = piece.next) {
            handIsMet = handIsMet || piece == atHand;
            wrong += piece.begin == due ? 0 : 1;
            wrong += piece.size >= 1 ? 0 : 1;
            wrong += isMarkRight(piece, handIsMet) ? 0 : 1;
            wrong += isTimeRight(piece) ? 0 : 1;
            due = piece.end();
        }
        wrong += due == FIRST_ADDRESS + cells ? 0 : 1;
        wrong += handIsMet ? 0 : 1;
        return wrong;
    }

    private void startAnew(int n) {
        cells = n;
        first = new Piece(FIRST_ADDRESS, n, null);
        atHand = null;
        freeings = 0;
        takesInVain = 0;
        sweptPieces = 0;
        endedSweeps = 0;
        comeToBeFree(first);
    }

    private void comeToBeFree(Piece piece) {
        piece.used = false;
        piece.marked = false;
        freeings++;
        piece.freedAt = freeings;
    }

    private void refuseDuringSweep() throws IllegalStateException {
        if (atHand != null) {
            throw new IllegalStateException("there is a sweep");
        }
    }

    private Piece pieceAt(int a) {
        for (Piece piece = first; piece != null && piece.begin <= a; piece = piece.next) {
            if (piece.begin == a) {
                return piece;
            }
        }
        return null;
    }

    private Piece usedPieceAt(int a) throws NoSuchElementException {
        Piece piece = pieceAt(a);
        if (piece == null || !piece.used) {
            throw new NoSuchElementException("no used piece begins there");
        }
        return piece;
    }

    private Piece whatIsTakenFor(int size) {
        Piece best = null;
        for (Piece piece = first; piece != null; piece = piece.next) {
            if (piece.isFreeForTaking() && piece.size >= size
                    && (best == null || isTakenBefore(piece, best))) {
                best = piece;
            }
        }
        return best;
    }

    private static boolean isTakenBefore(Piece one, Piece other) {
        if (one.size != other.size) {
            return one.size < other.size;
        }
        return one.freedAt > other.freedAt;
    }

    private void cutTo(Piece piece, int size) {
        if (piece.size <= size) {
            return;
        }
        Piece rest = new Piece(piece.begin + size, piece.size - size, piece.next);
        piece.size = size;
        piece.next = rest;
        comeToBeFree(rest);
    }

    private void stepFrom(Piece piece) {
        if (piece.isKeptBySweep()) {
            piece.marked = false;
        } else {
            gatherFrom(piece);
        }
        atHand = piece.next;
        if (atHand == null) {
            endedSweeps++;
        }
    }

    private void gatherFrom(Piece piece) {
        int sweptHere = piece.used ? 1 : 0;
        int size = piece.size;
        Piece behind = piece.next;
        while (behind != null && !behind.isKeptBySweep()) {
            sweptHere += behind.used ? 1 : 0;
            size += behind.size;
            behind = behind.next;
        }
        // A single piece that was free keeps its time: it did not come to be free now.
        if (!piece.used && behind == piece.next) {
            return;
        }
        piece.size = size;
        piece.next = behind;
        comeToBeFree(piece);
        sweptPieces += sweptHere;
    }

    private int sumOverPieces(int what) {
        int sum = 0;
        for (Piece piece = first; piece != null; piece = piece.next) {
            sum += shareOf(piece, what);
        }
        return sum;
    }

    private static int shareOf(Piece piece, int what) {
        switch (what) {
            case FREE_CELLS:
                return piece.used ? 0 : piece.size;
            case CRUMB_CELLS:
                return piece.isCrumb() ? piece.size : 0;
            case USED_PIECES:
                return piece.used ? 1 : 0;
            case FREE_PIECES:
                return piece.isFreeForTaking() ? 1 : 0;
            case CRUMBS:
                return piece.isCrumb() ? 1 : 0;
            case MARKED_PIECES:
                return piece.marked ? 1 : 0;
            default:
                return 0;
        }
    }

    private int greatestFree() {
        int greatest = 0;
        for (Piece piece = first; piece != null; piece = piece.next) {
            if (!piece.used && piece.size > greatest) {
                greatest = piece.size;
            }
        }
        return greatest;
    }

    /** Only used pieces have marks, and a sweep leaves none before its hand. */
    private static boolean isMarkRight(Piece piece, boolean isAtHandOrBehind) {
        return !piece.marked || (piece.used && isAtHandOrBehind);
    }

    private boolean isTimeRight(Piece piece) {
        return piece.used || (piece.freedAt >= 1 && piece.freedAt <= freeings);
    }
}
