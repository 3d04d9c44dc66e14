import java.util.ArrayList;
import java.util.List;
import java.util.Random;

/**
 * Random runs, each answer compared with that of a model: the document's words once more, on a
 * square of numbers, played out without any short cut.
 */
public final class TwistquadModelTest {
    private static final int BOUNDS = -101;
    private static final int ARGUMENT = -102;
    private static final int STATE = -103;

    // What an object answers behind its 512th call is free.
    private static final int MOST_CALLS = 512;
    private static final int MOST_TOLD = 20;

    private static long checks = 0;
    private static int wrong = 0;

    private interface Call {
        long answer();
    }

    public static void main(String[] args) {
        for (int run = 0; run < 3000; run++) {
            playFromTheStart(new Random(run));
        }
        for (int run = 0; run < 3000; run++) {
            playFromABoard(new Random(10_000 + run));
        }
        for (int run = 0; run < 40; run++) {
            playEndings(new Random(20_000 + run));
        }
        System.out.println("TwistquadModelTest: " + checks + " checks, " + wrong + " wrong");
        if (wrong != 0) {
            System.exit(1);
        }
    }

    // ---- the runs

    private static void playFromTheStart(Random random) {
        Pair pair = new Pair();
        for (int step = 0; step < 70; step++) {
            pair.act(random);
            pair.compareSome(random, 5);
        }
    }

    private static void playFromABoard(Random random) {
        Pair pair = new Pair();
        for (int board = 0; board < 4; board++) {
            pair.lay(random, random.nextInt(37));
            for (int step = 0; step < 12; step++) {
                pair.compareSome(random, 8);
                pair.act(random);
            }
        }
    }

    /** Many endings on one object, so that the values that it keeps meet other boards. */
    private static void playEndings(Random random) {
        Pair pair = new Pair();
        for (int board = 0; board < 12; board++) {
            pair.layAnEnding(random, 32 + random.nextInt(4), board % 3 != 0);
            for (int step = 0; step < 8; step++) {
                pair.compareEnding();
                pair.act(random);
            }
        }
    }

    private static long answerOf(Call call) {
        try {
            return call.answer();
        } catch (IndexOutOfBoundsException e) {
            return e.getClass() == IndexOutOfBoundsException.class ? BOUNDS : -999;
        } catch (IllegalArgumentException e) {
            return e.getClass() == IllegalArgumentException.class ? ARGUMENT : -998;
        } catch (IllegalStateException e) {
            return e.getClass() == IllegalStateException.class ? STATE : -997;
        }
    }

    /** A number of a range, which may be empty, or at times one beyond it on either side. */
    private static int oftenWithin(Random random, int least, int greatest) {
        if (greatest >= least && random.nextInt(12) != 0) {
            return least + random.nextInt(greatest - least + 1);
        }
        int[] beyond = Checks.beyond(least, greatest);
        return beyond[random.nextInt(beyond.length)];
    }

    // ---- a game and its model

    private static final class Pair {
        final Twistquad game = new Twistquad();
        final Model model = new Model();
        final StringBuilder story = new StringBuilder();

        int calls = 0;

        void check(String call, long due, Call answer) {
            if (calls == MOST_CALLS) {
                return;
            }
            checks++;
            calls++;
            long got = answerOf(answer);
            if (got != due) {
                wrong++;
                if (wrong <= MOST_TOLD) {
                    System.out.println(story + call + " answered " + got + ", due is " + due);
                }
            }
        }

        void act(Random random) {
            int kind = random.nextInt(12);
            if (kind == 0) {
                story.append("undo; ");
                check("undo", model.undo(), () -> game.undo() ? 1 : 0);
            } else if (model.mustTurn == (kind != 1)) {
                int quarter = oftenWithin(random, 0, 3);
                int way = oftenWithin(random, 0, 1);
                story.append("turn ").append(quarter).append(' ').append(way).append("; ");
                check("turn", model.turn(quarter, way), () -> game.turn(quarter, way));
            } else {
                int cell = random.nextInt(10) == 0
                        ? oftenWithin(random, 0, 35) : model.emptyCell(random.nextInt(36));
                story.append("put ").append(cell).append("; ");
                check("put", model.put(cell), () -> game.put(cell));
            }
        }

        void lay(Random random, int marbles) {
            long[] sums = randomBoard(random, marbles);
            if (random.nextInt(30) == 0) {
                sums[random.nextInt(2)] ^= 1L << random.nextInt(64);
            }
            lay(sums[0], sums[1]);
        }

        void lay(long first, long second) {
            story.append("lay ").append(first).append(' ').append(second).append("; ");
            check("lay", model.lay(first, second), () -> game.lay(first, second));
        }

        /** Lays an open game, if wanted one that is not won at once. */
        void layAnEnding(Random random, int marbles, boolean hard) {
            Model each = new Model();
            for (int attempt = 0; attempt < 100_000; attempt++) {
                long[] sums = randomBoard(random, marbles);
                each.lay(sums[0], sums[1]);
                if (each.result == 0 && !(hard && each.isWonAtOnce())) {
                    lay(sums[0], sums[1]);
                    return;
                }
            }
        }

        static long[] randomBoard(Random random, int marbles) {
            long[] sums = new long[2];
            for (int number = 0; number < marbles; number++) {
                int cell = random.nextInt(36);
                while (((sums[0] | sums[1]) >> cell & 1) != 0) {
                    cell = random.nextInt(36);
                }
                sums[number % 2] |= 1L << cell;
            }
            return sums;
        }

        void compareSome(Random random, int calls) {
            for (int call = 0; call < calls; call++) {
                compareOne(random, random.nextInt(18));
            }
        }

        void compareOne(Random random, int call) {
            int cell = oftenWithin(random, 0, 35);
            int side = oftenWithin(random, 1, 2);
            switch (call) {
                case 0 -> check("result", model.result, () -> game.result());
                case 1 -> check("mover", model.mover(), () -> game.mover());
                case 2 -> check("mustTurn", model.mustTurn ? 1 : 0, () -> game.mustTurn() ? 1 : 0);
                case 3 -> check("marbles", 36 - model.count(0), () -> game.marbles());
                case 4 -> check("share", Float.floatToIntBits((36 - model.count(0)) / 36f),
                        () -> Float.floatToIntBits(game.share()));
                case 5 -> check("form", model.form(), () -> game.form());
                case 6 -> check("symmetries", model.symmetries(), () -> game.symmetries());
                case 7 -> check("winningCells", model.winningCells(), () -> game.winningCells());
                case 8 -> check("winningTurns " + cell, model.winningTurns(cell),
                        () -> game.winningTurns(cell));
                case 9, 10 -> check("at " + cell, model.at(cell), () -> game.at(cell));
                case 11 -> check("lines " + side, model.lines(side), () -> game.lines(side));
                case 12 -> check("fours " + side, model.fours(side), () -> game.fours(side));
                case 13, 14 -> compareFoursBehind(random, side);
                case 15, 16 -> compareText(random);
                default -> compareValueOrRefusal(random);
            }
        }

        void compareFoursBehind(Random random, int side) {
            int quarter = oftenWithin(random, 0, 3);
            int way = oftenWithin(random, 0, 1);
            check("foursBehind " + side + " " + quarter + " " + way,
                    model.foursBehind(side, quarter, way),
                    () -> game.foursBehind(side, quarter, way));
        }

        void compareText(Random random) {
            check("moves", model.texts.size(), () -> game.moves());
            int move = oftenWithin(random, 0, model.texts.size() - 1);
            int index = oftenWithin(random, 0, 3);
            String text = move >= 0 && move < model.texts.size() ? model.texts.get(move) : "";
            check("textLength " + move, text.isEmpty() ? BOUNDS : text.length(),
                    () -> game.textLength(move));
            check("textAt " + move + " " + index,
                    index >= 0 && index < text.length() ? text.charAt(index) : BOUNDS,
                    () -> game.textAt(move, index));
        }

        void compareValueOrRefusal(Random random) {
            long[] due = model.ending();
            switch (random.nextInt(3)) {
                case 0 -> check("value", due[0], () -> game.value());
                case 1 -> check("valueOnBoards", due[0], () -> game.valueOnBoards());
                default -> check("bestMove", due[1], () -> game.bestMove());
            }
        }

        void compareEnding() {
            long[] due = model.ending();
            check("value", due[0], () -> game.value());
            check("valueOnBoards", due[0], () -> game.valueOnBoards());
            check("bestMove", due[1], () -> game.bestMove());
        }
    }

    /** The game as the document tells it. */
    private static final class Model {
        int[][] board = new int[6][6];
        boolean mustTurn = false;
        int result = 0;
        List<String> texts = new ArrayList<>();
        List<int[][]> boards = new ArrayList<>();

        int count(int content) {
            int count = 0;
            for (int[] row : board) {
                for (int each : row) {
                    count += each == content ? 1 : 0;
                }
            }
            return count;
        }

        int side() {
            boolean even = count(1) == count(2);
            return even != mustTurn ? 1 : 2;
        }

        int mover() {
            return result == 0 ? side() : 0;
        }

        /** The first empty cell from some cell on, and round the end; that cell if there is none. */
        int emptyCell(int from) {
            for (int step = 0; step < 36; step++) {
                if (at((from + step) % 36) == 0) {
                    return (from + step) % 36;
                }
            }
            return from;
        }

        boolean isWonAtOnce() {
            for (int cell = 0; cell < 36; cell++) {
                if (at(cell) == 0 && winningTurns(cell) > 0) {
                    return true;
                }
            }
            return false;
        }

        static boolean isCell(int cell) {
            return cell >= 0 && cell < 36;
        }

        long at(int cell) {
            return isCell(cell) ? board[cell / 6][cell % 6] : BOUNDS;
        }

        long put(int cell) {
            if (!isCell(cell)) {
                return BOUNDS;
            }
            if (result != 0 || mustTurn || at(cell) != 0) {
                return STATE;
            }
            int side = side();
            boards.add(board);
            board = with(board, cell, side);
            texts.add("" + "abcdef".charAt(cell % 6) + "123456".charAt(cell / 6));
            if (linesOf(board, side) > 0) {
                result = side;
            } else {
                mustTurn = true;
            }
            return result;
        }

        long turn(int quarter, int way) {
            if (quarter < 0 || quarter > 3) {
                return BOUNDS;
            }
            if (way != 0 && way != 1) {
                return ARGUMENT;
            }
            if (result != 0 || !mustTurn) {
                return STATE;
            }
            boards.add(board);
            board = turned(board, quarter, way);
            texts.add(texts.remove(texts.size() - 1) + quarter + (way == 0 ? "R" : "L"));
            mustTurn = false;
            result = resultOf(board);
            return result;
        }

        long undo() {
            if (boards.isEmpty()) {
                return STATE;
            }
            board = boards.remove(boards.size() - 1);
            String text = texts.remove(texts.size() - 1);
            boolean turn = text.length() == 4;
            if (turn) {
                texts.add(text.substring(0, 2));
            }
            mustTurn = turn;
            result = 0;
            return turn ? 1 : 0;
        }

        long lay(long first, long second) {
            int[][] laid = new int[6][6];
            for (int bit = 0; bit < 64; bit++) {
                boolean one = (first >> bit & 1) != 0;
                boolean two = (second >> bit & 1) != 0;
                if (one && two || bit >= 36 && (one || two)) {
                    return ARGUMENT;
                }
                if (one || two) {
                    laid[bit / 6][bit % 6] = one ? 1 : 2;
                }
            }
            int ahead = Long.bitCount(first) - Long.bitCount(second);
            if (ahead < 0 || ahead > 1) {
                return ARGUMENT;
            }
            board = laid;
            texts.clear();
            boards.clear();
            mustTurn = false;
            result = resultOf(board);
            return result;
        }

        // ---- lines and forms

        long lines(int side) {
            return side == 1 || side == 2 ? linesOf(board, side) : BOUNDS;
        }

        long fours(int side) {
            return side == 1 || side == 2 ? foursOf(board, side) : BOUNDS;
        }

        long foursBehind(int side, int quarter, int way) {
            if (side < 1 || side > 2 || quarter < 0 || quarter > 3) {
                return BOUNDS;
            }
            return way == 0 || way == 1 ? foursOf(turned(board, quarter, way), side) : ARGUMENT;
        }

        List<Long> codes() {
            List<Long> codes = new ArrayList<>();
            int[][] view = board;
            for (int turns = 0; turns < 4; turns++) {
                codes.add(code(view));
                codes.add(code(mirrored(view)));
                view = wholeTurned(view);
            }
            return codes;
        }

        long form() {
            long least = Long.MAX_VALUE;
            for (long code : codes()) {
                least = Math.min(least, code);
            }
            return least;
        }

        long symmetries() {
            long same = 0;
            for (long code : codes()) {
                same += code == code(board) ? 1 : 0;
            }
            return same;
        }

        // ---- threats and endings

        long winningCells() {
            if (result != 0 || mustTurn) {
                return STATE;
            }
            long count = 0;
            for (int cell = 0; cell < 36; cell++) {
                if (at(cell) == 0 && linesOf(with(board, cell, side()), side()) > 0) {
                    count++;
                }
            }
            return count;
        }

        long winningTurns(int cell) {
            if (!isCell(cell)) {
                return BOUNDS;
            }
            if (result != 0 || mustTurn || at(cell) != 0) {
                return STATE;
            }
            int side = side();
            int[][] placed = with(board, cell, side);
            if (linesOf(placed, side) > 0) {
                return 8;
            }
            long count = 0;
            for (int turn = 0; turn < 8; turn++) {
                count += resultOf(turned(placed, turn / 2, turn % 2)) == side ? 1 : 0;
            }
            return count;
        }

        /** The value and the best move. */
        long[] ending() {
            if (result != 0 || count(0) > 3) {
                return new long[] {STATE, STATE};
            }
            return mustTurn ? endingToTurn(board, side()) : endingToPut(board, side());
        }

        static long[] endingToPut(int[][] board, int side) {
            long[] best = {-2, -2};
            for (int cell = 0; cell < 36; cell++) {
                if (board[cell / 6][cell % 6] == 0) {
                    int[][] placed = with(board, cell, side);
                    long[] here = linesOf(placed, side) > 0
                            ? new long[] {1, 0} : endingToTurn(placed, side);
                    if (here[0] > best[0]) {
                        best = new long[] {here[0], 8 * cell + here[1]};
                    }
                }
            }
            return best;
        }

        static long[] endingToTurn(int[][] board, int side) {
            long[] best = {-2, -2};
            for (int turn = 0; turn < 8; turn++) {
                int[][] behind = turned(board, turn / 2, turn % 2);
                int result = resultOf(behind);
                long value = result == side ? 1 : result == 3 ? 0 : result != 0 ? -1
                        : -endingToPut(behind, 3 - side)[0];
                if (value > best[0]) {
                    best = new long[] {value, turn};
                }
            }
            return best;
        }

        // ---- boards

        static int[][] copy(int[][] board) {
            int[][] copy = new int[6][];
            for (int row = 0; row < 6; row++) {
                copy[row] = board[row].clone();
            }
            return copy;
        }

        static int[][] with(int[][] board, int cell, int side) {
            int[][] copy = copy(board);
            copy[cell / 6][cell % 6] = side;
            return copy;
        }

        static int[][] turned(int[][] board, int quarter, int way) {
            int[][] copy = copy(board);
            int top = quarter >= 2 ? 3 : 0;
            int left = quarter % 2 == 1 ? 3 : 0;
            for (int row = 0; row < 3; row++) {
                for (int column = 0; column < 3; column++) {
                    int toRow = way == 0 ? column : 2 - column;
                    int toColumn = way == 0 ? 2 - row : row;
                    copy[top + toRow][left + toColumn] = board[top + row][left + column];
                }
            }
            return copy;
        }

        static int[][] wholeTurned(int[][] board) {
            int[][] copy = new int[6][6];
            for (int cell = 0; cell < 36; cell++) {
                copy[cell % 6][5 - cell / 6] = board[cell / 6][cell % 6];
            }
            return copy;
        }

        static int[][] mirrored(int[][] board) {
            int[][] copy = new int[6][6];
            for (int cell = 0; cell < 36; cell++) {
                copy[cell / 6][5 - cell % 6] = board[cell / 6][cell % 6];
            }
            return copy;
        }

        static long code(int[][] board) {
            long code = 0;
            long power = 1;
            for (int cell = 0; cell < 36; cell++) {
                code += board[cell / 6][cell % 6] * power;
                power *= 3;
            }
            return code;
        }

        static int resultOf(int[][] board) {
            boolean one = linesOf(board, 1) > 0;
            boolean two = linesOf(board, 2) > 0;
            boolean full = true;
            for (int cell = 0; cell < 36; cell++) {
                full &= board[cell / 6][cell % 6] != 0;
            }
            return one && two ? 3 : one ? 1 : two ? 2 : full ? 3 : 0;
        }

        static int linesOf(int[][] board, int side) {
            return places(board, side, 5, 0);
        }

        static int foursOf(int[][] board, int side) {
            return places(board, side, 4, 1);
        }

        /** How many places for a line have so many marbles of a side, and so many empty cells. */
        static int places(int[][] board, int side, int marbles, int empty) {
            int count = 0;
            for (int row = 0; row < 6; row++) {
                for (int column = 0; column < 6; column++) {
                    count += isPlace(board, row, column, 0, 1, side, marbles, empty);
                    count += isPlace(board, row, column, 1, 0, side, marbles, empty);
                    count += isPlace(board, row, column, 1, 1, side, marbles, empty);
                    count += isPlace(board, row, column, 1, -1, side, marbles, empty);
                }
            }
            return count;
        }

        static int isPlace(int[][] board, int row, int column, int down, int right, int side,
                int marbles, int empty) {
            int lastRow = row + 4 * down;
            int lastColumn = column + 4 * right;
            if (lastRow > 5 || lastColumn > 5 || lastColumn < 0) {
                return 0;
            }
            int own = 0;
            int none = 0;
            for (int index = 0; index < 5; index++) {
                int content = board[row + index * down][column + index * right];
                own += content == side ? 1 : 0;
                none += content == 0 ? 1 : 0;
            }
            return own == marbles && none == empty ? 1 : 0;
        }
    }
}
