/**
 * A game of marbles on four quarters: two sides put marbles, and turn a quarter after each; five in
 * a line win.
 *
 * <p>The marbles of a side are one long: bit n stands for the cell n. A turn is one number, 2 *
 * quarter + way, as in the numbers of moves.
 */
public final class Twistquad {
    public static final int OPEN = 0, FIRST = 1, SECOND = 2, DRAW = 3;

    private static final int WIDTH = 6;
    private static final int CELLS = 36;
    private static final int QUARTERS = 4;
    private static final int WAYS = 2;
    private static final int TURNS = QUARTERS * WAYS;
    private static final long ALL_CELLS = (1L << CELLS) - 1;
    private static final int MOST_EMPTY_TO_SOLVE = 3;

    private final MoveLog log = new MoveLog();
    private final Solver formSolver = new Solver(new ValueTable());
    private final Solver plainSolver = new Solver(null);

    private long first;
    private long second;
    private boolean mustTurn;
    private int result;

    public Twistquad() {
        result = OPEN;
    }

    // ---- the game

    public int put(int cell) throws IndexOutOfBoundsException, IllegalStateException {
        requireCell(cell);
        requireToPut();
        requireEmpty(cell);
        int side = sideToAct();
        if (side == FIRST) {
            first |= bitOf(cell);
        } else {
            second |= bitOf(cell);
        }
        log.addMarble(cell);
        if (Lines.hasLine(marblesOf(side))) {
            result = side;
        } else {
            mustTurn = true;
        }
        return result;
    }

    public int turn(int quarter, int way)
            throws IndexOutOfBoundsException, IllegalArgumentException, IllegalStateException {
        requireQuarter(quarter);
        requireWay(way);
        if (result != OPEN || !mustTurn) {
            throw new IllegalStateException("no quarter is to be turned");
        }
        int turn = turnNumber(quarter, way);
        turnBoard(turn);
        log.addTurn(turn);
        mustTurn = false;
        result = resultBehindTurn();
        return result;
    }

    public boolean undo() throws IllegalStateException {
        if (log.count() == 0) {
            throw new IllegalStateException("nothing was done");
        }
        int last = log.count() - 1;
        boolean wasTurn = log.hasTurn(last);
        if (wasTurn) {
            turnBoard(Turns.opposite(log.turnOf(last)));
            log.dropTurn();
        } else {
            long kept = ~bitOf(log.cellOf(last));
            first &= kept;
            second &= kept;
            log.dropMarble();
        }
        mustTurn = wasTurn;
        result = OPEN;
        return wasTurn;
    }

    public int lay(long first, long second) throws IllegalArgumentException {
        requireBoard(first, second);
        this.first = first;
        this.second = second;
        log.clear();
        mustTurn = false;
        result = resultBehindTurn();
        return result;
    }

    public int result() {
        return result;
    }

    public int mover() {
        return result == OPEN ? sideToAct() : 0;
    }

    public boolean mustTurn() {
        return mustTurn;
    }

    public int at(int cell) throws IndexOutOfBoundsException {
        requireCell(cell);
        if ((first & bitOf(cell)) != 0) {
            return FIRST;
        }
        return (second & bitOf(cell)) != 0 ? SECOND : 0;
    }

    public int marbles() {
        return Long.bitCount(first | second);
    }

    public float share() {
        return (float) marbles() / (float) CELLS;
    }

    // ---- the record

    public int moves() {
        return log.count();
    }

    public int textLength(int move) throws IndexOutOfBoundsException {
        requireMove(move);
        return lengthOfText(move);
    }

    public char textAt(int move, int index) throws IndexOutOfBoundsException {
        requireMove(move);
        if (index < 0 || index >= lengthOfText(move)) {
            throw new IndexOutOfBoundsException("no such character");
        }
        switch (index) {
            case 0:
                return (char) ('a' + log.cellOf(move) % WIDTH);
            case 1:
                return (char) ('1' + log.cellOf(move) / WIDTH);
            case 2:
                return (char) ('0' + Turns.quarterOf(log.turnOf(move)));
            default:
                return Turns.wayOf(log.turnOf(move)) == 0 ? 'R' : 'L';
        }
    }

    // ---- lines and forms

    public int lines(int side) throws IndexOutOfBoundsException {
        requireSide(side);
        return Lines.countLines(marblesOf(side));
    }

    public int fours(int side) throws IndexOutOfBoundsException {
        requireSide(side);
        return Lines.countFours(marblesOf(side), emptyCells());
    }

    public int foursBehind(int side, int quarter, int way)
            throws IndexOutOfBoundsException, IllegalArgumentException {
        requireSide(side);
        requireQuarter(quarter);
        requireWay(way);
        int turn = turnNumber(quarter, way);
        return Lines.countFours(
                Turns.turned(marblesOf(side), turn), Turns.turned(emptyCells(), turn));
    }

    public long form() {
        return Forms.leastCode(first, second);
    }

    public int symmetries() {
        return Forms.countSymmetries(first, second);
    }

    // ---- threats and endings

    public int winningCells() throws IllegalStateException {
        requireToPut();
        long own = marblesOf(sideToAct());
        int count = 0;
        for (int cell = 0; cell < CELLS; cell++) {
            if (isEmpty(cell) && Lines.hasLine(own | bitOf(cell))) {
                count++;
            }
        }
        return count;
    }

    public int winningTurns(int cell) throws IndexOutOfBoundsException, IllegalStateException {
        requireCell(cell);
        requireToPut();
        requireEmpty(cell);
        int side = sideToAct();
        long own = marblesOf(side) | bitOf(cell);
        if (Lines.hasLine(own)) {
            return TURNS;
        }
        long other = marblesOf(otherSide(side));
        int count = 0;
        for (int turn = 0; turn < TURNS; turn++) {
            if (Lines.hasLine(Turns.turned(own, turn))
                    && !Lines.hasLine(Turns.turned(other, turn))) {
                count++;
            }
        }
        return count;
    }

    public int value() throws IllegalStateException {
        requireSolvable();
        return solveWith(formSolver);
    }

    public int valueOnBoards() throws IllegalStateException {
        requireSolvable();
        return solveWith(plainSolver);
    }

    public int bestMove() throws IllegalStateException {
        requireSolvable();
        int side = sideToAct();
        long own = marblesOf(side);
        long other = marblesOf(otherSide(side));
        int left = Long.bitCount(emptyCells());
        return mustTurn
                ? formSolver.lowestBestTurn(own, other, left)
                : formSolver.lowestBestMove(own, other, left);
    }

    // ---- what the calls above share

    private static void requireCell(int cell) {
        if (cell < 0 || cell >= CELLS) {
            throw new IndexOutOfBoundsException("no such cell");
        }
    }

    private static void requireSide(int side) {
        if (side != FIRST && side != SECOND) {
            throw new IndexOutOfBoundsException("no such side");
        }
    }

    private static void requireQuarter(int quarter) {
        if (quarter < 0 || quarter >= QUARTERS) {
            throw new IndexOutOfBoundsException("no such quarter");
        }
    }

    private static void requireWay(int way) {
        if (way < 0 || way >= WAYS) {
            throw new IllegalArgumentException("no such way");
        }
    }

    private static void requireBoard(long first, long second) {
        if (((first | second) & ~ALL_CELLS) != 0) {
            throw new IllegalArgumentException("a bit that is no cell");
        }
        if ((first & second) != 0) {
            throw new IllegalArgumentException("a cell with two marbles");
        }
        int ahead = Long.bitCount(first) - Long.bitCount(second);
        if (ahead != 0 && ahead != 1) {
            throw new IllegalArgumentException("no side can be to move");
        }
    }

    private void requireMove(int move) {
        if (move < 0 || move >= log.count()) {
            throw new IndexOutOfBoundsException("no such move");
        }
    }

    private void requireToPut() {
        if (result != OPEN || mustTurn) {
            throw new IllegalStateException("no marble is to be put");
        }
    }

    private void requireEmpty(int cell) {
        if (!isEmpty(cell)) {
            throw new IllegalStateException("the cell is not empty");
        }
    }

    private void requireSolvable() {
        if (result != OPEN || Long.bitCount(emptyCells()) > MOST_EMPTY_TO_SOLVE) {
            throw new IllegalStateException("no ending to solve");
        }
    }

    private static long bitOf(int cell) {
        return 1L << cell;
    }

    private static int turnNumber(int quarter, int way) {
        return WAYS * quarter + way;
    }

    private static int otherSide(int side) {
        return side == FIRST ? SECOND : FIRST;
    }

    private long marblesOf(int side) {
        return side == FIRST ? first : second;
    }

    private long emptyCells() {
        return ALL_CELLS & ~(first | second);
    }

    private boolean isEmpty(int cell) {
        return (emptyCells() & bitOf(cell)) != 0;
    }

    /** The side that puts or turns, if the game is open: the sides put by turns, the side 1 first. */
    private int sideToAct() {
        int before = mustTurn ? marbles() - 1 : marbles();
        return before % 2 == 0 ? FIRST : SECOND;
    }

    private void turnBoard(int turn) {
        first = Turns.turned(first, turn);
        second = Turns.turned(second, turn);
    }

    private int resultBehindTurn() {
        boolean firstHas = Lines.hasLine(first);
        boolean secondHas = Lines.hasLine(second);
        if (firstHas != secondHas) {
            return firstHas ? FIRST : SECOND;
        }
        return firstHas || emptyCells() == 0 ? DRAW : OPEN;
    }

    private int lengthOfText(int move) {
        return log.hasTurn(move) ? 4 : 2;
    }

    private int solveWith(Solver solver) {
        int side = sideToAct();
        long own = marblesOf(side);
        long other = marblesOf(otherSide(side));
        int left = Long.bitCount(emptyCells());
        return mustTurn
                ? solver.valueToTurn(own, other, left)
                : solver.valueToPut(own, other, left);
    }

    /** The moves since the game was begun or laid: each puts a marble, so there are 36 at most. */
    private static final class MoveLog {
        private static final int NO_TURN = -1;

        private final int[] cells = new int[CELLS];
        private final int[] turns = new int[CELLS];
        private int count;

        int count() {
            return count;
        }

        void clear() {
            count = 0;
        }

        void addMarble(int cell) {
            if (count < CELLS) {
                cells[count] = cell;
                turns[count] = NO_TURN;
                count++;
            }
        }

        void addTurn(int turn) {
            setLastTurn(turn);
        }

        void dropTurn() {
            setLastTurn(NO_TURN);
        }

        void dropMarble() {
            if (count > 0) {
                count--;
            }
        }

        int cellOf(int move) {
            return isMove(move) ? cells[move] : 0;
        }

        int turnOf(int move) {
            return isMove(move) ? turns[move] : NO_TURN;
        }

        boolean hasTurn(int move) {
            return turnOf(move) != NO_TURN;
        }

        private void setLastTurn(int turn) {
            if (isMove(count - 1)) {
                turns[count - 1] = turn;
            }
        }

        private boolean isMove(int move) {
            return move >= 0 && move < count && move < CELLS;
        }
    }

    /**
     * Lines among the marbles of one side. A line is told by its direction and by its upmost cell
     * (in a row, its leftmost one); the next of its cells has a number that is higher by the
     * direction's step. A shift by the step lays each cell's follower over it.
     */
    private static final class Lines {
        private static final int LENGTH = 5;
        private static final int RIGHT = 1;
        private static final int DOWN = 6;
        private static final int DOWN_RIGHT = 7;
        private static final int DOWN_LEFT = 5;

        // Where a line can begin: octal, two digits a row, the row 0 last and its column 0 lowest.
        private static final long RIGHT_STARTS = 0030303030303L;
        private static final long DOWN_STARTS = 0000000007777L;
        private static final long DOWN_RIGHT_STARTS = 0000000000303L;
        private static final long DOWN_LEFT_STARTS = 0000000006060L;

        static boolean hasLine(long own) {
            return (fives(own, RIGHT) & RIGHT_STARTS) != 0
                    || (fives(own, DOWN) & DOWN_STARTS) != 0
                    || (fives(own, DOWN_RIGHT) & DOWN_RIGHT_STARTS) != 0
                    || (fives(own, DOWN_LEFT) & DOWN_LEFT_STARTS) != 0;
        }

        static int countLines(long own) {
            return Long.bitCount(fives(own, RIGHT) & RIGHT_STARTS)
                    + Long.bitCount(fives(own, DOWN) & DOWN_STARTS)
                    + Long.bitCount(fives(own, DOWN_RIGHT) & DOWN_RIGHT_STARTS)
                    + Long.bitCount(fives(own, DOWN_LEFT) & DOWN_LEFT_STARTS);
        }

        static int countFours(long own, long empty) {
            int count = 0;
            for (int gap = 0; gap < LENGTH; gap++) {
                count += Long.bitCount(foursWith(own, empty, RIGHT, gap) & RIGHT_STARTS)
                        + Long.bitCount(foursWith(own, empty, DOWN, gap) & DOWN_STARTS)
                        + Long.bitCount(foursWith(own, empty, DOWN_RIGHT, gap) & DOWN_RIGHT_STARTS)
                        + Long.bitCount(foursWith(own, empty, DOWN_LEFT, gap) & DOWN_LEFT_STARTS);
            }
            return count;
        }

        /** The cells from which five in this direction are own. */
        private static long fives(long own, int step) {
            long twos = own & own >>> step;
            return twos & twos >>> 2 * step & own >>> 4 * step;
        }

        /** The cells from which five in this direction are own, but for the one at the gap. */
        private static long foursWith(long own, long empty, int step, int gap) {
            long starts = ALL_CELLS;
            for (int index = 0; index < LENGTH; index++) {
                starts &= (index == gap ? empty : own) >>> index * step;
            }
            return starts;
        }
    }

    /** Turns of a quarter. */
    private static final class Turns {
        // The nine cells of the quarter 0: octal, two digits a row, as in Lines.
        private static final long QUARTER_CELLS = 0070707L;

        static int quarterOf(int turn) {
            return turn / WAYS;
        }

        static int wayOf(int turn) {
            return turn % WAYS;
        }

        static int opposite(int turn) {
            return turnNumber(quarterOf(turn), 1 - wayOf(turn));
        }

        static long turned(long cells, int turn) {
            int quarter = quarterOf(turn);
            int corner = quarter / 2 * 18 + quarter % 2 * 3;
            long nine = cells >>> corner & QUARTER_CELLS;
            long moved = wayOf(turn) == 0 ? clockwise(nine) : anticlockwise(nine);
            return cells & ~(QUARTER_CELLS << corner) | moved << corner;
        }

        // In the quarter 0 the corners are the bits 0, 2, 14, 12 and the edges 1, 8, 13, 6, each
        // clockwise; the middle is the bit 7.
        private static long clockwise(long nine) {
            long corners = (nine & 1L) << 2
                    | (nine & 1L << 2) << 12
                    | (nine & 1L << 14) >>> 2
                    | (nine & 1L << 12) >>> 12;
            long edges = (nine & 1L << 1) << 7
                    | (nine & 1L << 8) << 5
                    | (nine & 1L << 13) >>> 7
                    | (nine & 1L << 6) >>> 5;
            return corners | edges | nine & 1L << 7;
        }

        private static long anticlockwise(long nine) {
            long corners = (nine & 1L) << 12
                    | (nine & 1L << 12) << 2
                    | (nine & 1L << 14) >>> 12
                    | (nine & 1L << 2) >>> 2;
            long edges = (nine & 1L << 1) << 5
                    | (nine & 1L << 6) << 7
                    | (nine & 1L << 13) >>> 5
                    | (nine & 1L << 8) >>> 7;
            return corners | edges | nine & 1L << 7;
        }
    }

    /**
     * Forms of a board. A view, from 0 to 7, is one of the turned and mirrored boards: its bits tell
     * whether the rows are read from below, the columns from the right, and rows as columns.
     */
    private static final class Forms {
        private static final int VIEWS = 8;
        private static final int PLAIN_VIEW = 0;

        static long leastCode(long first, long second) {
            long least = codeSeen(first, second, PLAIN_VIEW);
            for (int view = 1; view < VIEWS; view++) {
                least = Math.min(least, codeSeen(first, second, view));
            }
            return least;
        }

        static int countSymmetries(long first, long second) {
            long code = codeSeen(first, second, PLAIN_VIEW);
            int count = 0;
            for (int view = 0; view < VIEWS; view++) {
                if (codeSeen(first, second, view) == code) {
                    count++;
                }
            }
            return count;
        }

        private static long codeSeen(long first, long second, int view) {
            boolean fromBelow = (view & 1) != 0;
            boolean fromRight = (view & 2) != 0;
            boolean swapped = (view & 4) != 0;
            int origin = (fromBelow ? CELLS - WIDTH : 0) + (fromRight ? WIDTH - 1 : 0);
            int down = fromBelow ? -WIDTH : WIDTH;
            int across = fromRight ? -1 : 1;
            int rowStep = swapped ? across : down;
            int columnStep = swapped ? down : across;
            long code = 0;
            for (int cell = CELLS - 1; cell >= 0; cell--) {
                int seen = origin + cell / WIDTH * rowStep + cell % WIDTH * columnStep;
                code = 3 * code + (first >>> seen & 1) + 2 * (second >>> seen & 1);
            }
            return code;
        }
    }

    /**
     * The values of boards on which a marble is to be put, by forms. A form tells who is to move by
     * its marbles, so that it needs no other key. A form that falls on the slot of an older one
     * takes its place: the older one would only have to be played again.
     */
    private static final class ValueTable {
        private static final int SLOT_BITS = 10;
        private static final int SLOTS = 1 << SLOT_BITS;
        private static final long SPREAD = 0x9E3779B97F4A7C15L;

        // 0, the form of the empty board, stands for a free slot: that board is never solved.
        private final long[] forms = new long[SLOTS];
        private final int[] values = new int[SLOTS];

        boolean holds(long form) {
            return forms[slotOf(form)] == form;
        }

        int valueOf(long form) {
            return values[slotOf(form)];
        }

        void keep(long form, int value) {
            int slot = slotOf(form);
            forms[slot] = form;
            values[slot] = value;
        }

        private static int slotOf(long form) {
            int slot = (int) (form * SPREAD >>> 64 - SLOT_BITS);
            return slot >= 0 && slot < SLOTS ? slot : 0;
        }
    }

    /**
     * Solves endings. Values are told for the side that owns the marbles own; left is the number of
     * empty cells, which falls with each marble and so bounds the depth. The methods that call one
     * another are private, as the rule 8 of the language wants it.
     */
    private static final class Solver {
        private static final int WIN = 1;
        private static final int EVEN = 0;
        private static final int LOSS = -1;
        private static final int UNKNOWN = -2;

        // With one empty cell the eight turns are sooner played than the form is found.
        private static final int LEAST_LEFT_FOR_TABLE = 2;

        // null: each board is played, and no value is kept.
        private final ValueTable table;

        Solver(ValueTable table) {
            this.table = table;
        }

        private int valueToPut(long own, long other, int left) {
            // A full board is a draw; the other bound, which no call reaches, guards the depth.
            if (left <= 0 || left > MOST_EMPTY_TO_SOLVE) {
                return EVEN;
            }
            if (table == null || left < LEAST_LEFT_FOR_TABLE) {
                return playMarbles(own, other, left);
            }
            // Both sides have as many marbles where the side 1 is to put.
            long form = Long.bitCount(own) == Long.bitCount(other)
                    ? Forms.leastCode(own, other)
                    : Forms.leastCode(other, own);
            if (table.holds(form)) {
                return table.valueOf(form);
            }
            int value = playMarbles(own, other, left);
            table.keep(form, value);
            return value;
        }

        private int valueToTurn(long own, long other, int left) {
            int best = LOSS;
            for (int turn = 0; turn < TURNS && best < WIN; turn++) {
                best = Math.max(best, valueBehindTurn(own, other, turn, left));
            }
            return best;
        }

        int lowestBestTurn(long own, long other, int left) {
            int best = UNKNOWN;
            int bestTurn = 0;
            for (int turn = 0; turn < TURNS && best < WIN; turn++) {
                int value = valueBehindTurn(own, other, turn, left);
                if (value > best) {
                    best = value;
                    bestTurn = turn;
                }
            }
            return bestTurn;
        }

        int lowestBestMove(long own, long other, int left) {
            int best = UNKNOWN;
            int bestMove = 0;
            for (int move = 0; move < CELLS * TURNS && best < WIN; move++) {
                long marble = bitOf(move / TURNS);
                if (((own | other) & marble) == 0) {
                    int value = Lines.hasLine(own | marble)
                            ? WIN
                            : valueBehindTurn(own | marble, other, move % TURNS, left - 1);
                    if (value > best) {
                        best = value;
                        bestMove = move;
                    }
                }
            }
            return bestMove;
        }

        private int playMarbles(long own, long other, int left) {
            int best = LOSS;
            for (int cell = 0; cell < CELLS && best < WIN; cell++) {
                long marble = bitOf(cell);
                if (((own | other) & marble) == 0) {
                    int value = Lines.hasLine(own | marble)
                            ? WIN
                            : valueToTurn(own | marble, other, left - 1);
                    best = Math.max(best, value);
                }
            }
            return best;
        }

        private int valueBehindTurn(long own, long other, int turn, int left) {
            long ownTurned = Turns.turned(own, turn);
            long otherTurned = Turns.turned(other, turn);
            boolean ownHas = Lines.hasLine(ownTurned);
            boolean otherHas = Lines.hasLine(otherTurned);
            if (ownHas != otherHas) {
                return ownHas ? WIN : LOSS;
            }
            return ownHas ? EVEN : -valueToPut(otherTurned, ownTurned, left);
        }
    }
}
