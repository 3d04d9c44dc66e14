import java.util.ArrayList;
import java.util.List;

/** Rows, columns, quarters and lines, counted from the document's words by rows and columns. */
final class Geometry {
    private Geometry() {
    }

    /** The quarter with these rows and columns: 0 and 1 above, 2 and 3 below. */
    static int quarterOf(int cell) {
        return (cell / 6 >= 3 ? 2 : 0) + (cell % 6 >= 3 ? 1 : 0);
    }

    /** The cell to which what is on this one goes with the turn of its quarter. */
    static int behindTurn(int cell, int quarter, int way) {
        if (quarterOf(cell) != quarter) {
            return cell;
        }
        int row = cell / 6 % 3;
        int column = cell % 6 % 3;
        int toRow = way == 0 ? column : 2 - column;
        int toColumn = way == 0 ? 2 - row : row;
        return 6 * (cell / 6 - row + toRow) + cell % 6 - column + toColumn;
    }

    static long behindTurn(long cells, int quarter, int way) {
        long moved = 0;
        for (int cell = 0; cell < 36; cell++) {
            if ((cells >> cell & 1) != 0) {
                moved |= 1L << behindTurn(cell, quarter, way);
            }
        }
        return moved;
    }

    /** The places for a line: the five cells of each. */
    static List<int[]> places() {
        List<int[]> places = new ArrayList<>();
        int[][] directions = {{0, 1}, {1, 0}, {1, 1}, {1, -1}};
        for (int[] direction : directions) {
            for (int row = 0; row < 6; row++) {
                for (int column = 0; column < 6; column++) {
                    int lastRow = row + 4 * direction[0];
                    int lastColumn = column + 4 * direction[1];
                    if (lastRow <= 5 && lastColumn >= 0 && lastColumn <= 5) {
                        int[] cells = new int[5];
                        for (int index = 0; index < 5; index++) {
                            cells[index] = 6 * (row + index * direction[0])
                                    + column + index * direction[1];
                        }
                        places.add(cells);
                    }
                }
            }
        }
        return places;
    }

    /** Five cells with numbers like those of a line, but which go round an edge. */
    static List<int[]> roundAnEdge() {
        List<int[]> runs = new ArrayList<>();
        int[] steps = {1, 5, 6, 7};
        for (int step : steps) {
            for (int cell = 0; cell + 4 * step < 36; cell++) {
                int[] cells = new int[5];
                boolean broken = false;
                for (int index = 0; index < 5; index++) {
                    cells[index] = cell + index * step;
                    broken |= index > 0
                            && Math.abs(cells[index] % 6 - cells[index - 1] % 6) > 1;
                }
                if (broken) {
                    runs.add(cells);
                }
            }
        }
        return runs;
    }

    /** How many places for a line have so many of the one cells and so many of the other. */
    static int places(long ones, int one, long others, int other) {
        int count = 0;
        for (int[] place : places()) {
            long cells = Checks.bits(place);
            if (Long.bitCount(cells & ones) == one && Long.bitCount(cells & others) == other) {
                count++;
            }
        }
        return count;
    }

    /**
     * So many cells beside those that are taken, with at most two in any place for a line, as far as
     * that can be.
     */
    static long spread(long taken, int count) {
        long spread = 0;
        for (int most = 2; Long.bitCount(spread) < count; most++) {
            for (int cell = 0; cell < 36 && Long.bitCount(spread) < count; cell++) {
                long more = spread | 1L << cell;
                if ((taken >> cell & 1) == 0 && more != spread && mostInAPlace(more) <= most) {
                    spread = more;
                }
            }
        }
        return spread;
    }

    /** The cells on one of the 8 boards: turned so many times by a quarter turn, the last four mirrored. */
    static long seen(long cells, int view) {
        long seen = 0;
        for (int cell = 0; cell < 36; cell++) {
            int row = cell / 6;
            int column = view < 4 ? cell % 6 : 5 - cell % 6;
            for (int turns = 0; turns < view % 4; turns++) {
                int above = row;
                row = column;
                column = 5 - above;
            }
            seen |= (cells >> cell & 1) << 6 * row + column;
        }
        return seen;
    }

    static long code(long first, long second) {
        long code = 0;
        long power = 1;
        for (int cell = 0; cell < 36; cell++) {
            code += ((first >> cell & 1) + 2 * (second >> cell & 1)) * power;
            power *= 3;
        }
        return code;
    }

    private static int mostInAPlace(long cells) {
        int most = 0;
        for (int[] place : places()) {
            most = Math.max(most, Long.bitCount(cells & Checks.bits(place)));
        }
        return most;
    }
}
