/**
 * The sentences of the document that name an edge of the game: its terms, and the promises 1 to 11.
 * Each has a test of its own.
 */
public final class TwistquadGameEdgesTest extends Checks {
    private static final int[] RESULTS_OF_OVER = {
        1, 2, 2, 2,
        1, 2, 2, 1, 3, 3,
        2, 1, 3, 3, 3,
        1, 2, 3, 1, 2, 3, 3, 1,
    };

    private static final int[] NO_CELLS = beyond(0, 35);
    private static final int[] NO_QUARTERS = beyond(0, 3);
    private static final int[] NO_WAYS = beyond(0, 1);

    public static void main(String[] args) {
        theTerms();
        newObject();
        put();
        turn();
        undo();
        lay();
        whatIsTold();
        end("TwistquadGameEdgesTest");
    }

    private static void theTerms() {
        sentence("OPEN = 0, FIRST = 1, SECOND = 2, DRAW = 3", () -> {
            check("OPEN", Twistquad.OPEN, 0);
            check("FIRST", Twistquad.FIRST, 1);
            check("SECOND", Twistquad.SECOND, 2);
            check("DRAW", Twistquad.DRAW, 3);
        });
        sentence("an object is used for at most 512 calls: the last of them answers as it should",
                TwistquadGameEdgesTest::theLastOf512Calls);
        sentence("the cell in a row and a column, 0 to 5 each, has the number 6 * row + column",
                TwistquadGameEdgesTest::theNumbersOfCells);
        sentence("a quarter has three rows and three columns: the other 27 cells stay where they are",
                TwistquadGameEdgesTest::otherQuartersStay);
        sentence("with the way 0 row r and column c go to row c and column 2 - r",
                () -> goesTo(0, new int[] {2, 8, 14, 1, 7, 13, 0, 6, 12}));
        sentence("with the way 1 row r and column c go to row 2 - c and column r",
                () -> goesTo(1, new int[] {12, 6, 0, 13, 7, 1, 14, 8, 2}));
        sentence("the side 1 begins", () -> {
            Twistquad game = new Twistquad();
            check("mover", game.mover(), 1);
            game.put(0);
            check("at(0)", game.at(0), 1);
        });
        sentence("a side that has a line by its marble has won, at each of the 32 places",
                TwistquadGameEdgesTest::aLineByTheMarble);
        sentence("five cells are a line, four are none",
                TwistquadGameEdgesTest::fourAreNoLine);
        sentence("a line is one cell next to the other: none goes round an edge",
                TwistquadGameEdgesTest::noLineRoundAnEdge);
        sentence("all five have marbles of one side",
                TwistquadGameEdgesTest::noLineOfBothSides);
        sentence("six in a row, joined by a marble, have won", () -> {
            check("the side 1", Position.laid("111.11 ...... ...... ...... ...... 22.222").put(3), 1);
            check("the side 2", Position.laid("111.11 1..... ...... ...... ...... 22.222").put(32), 2);
        });
        sentence("a marble on the last empty cell wins as any other",
                () -> check("c3", Position.laid("211211 222111 12.122 212211 222111 122211").put(14), 2));
        sentence("by the marble the game is over before the turn: none is due that could lose it", () -> {
            // Each turn behind it would break the line, and some would make one of the side 1.
            Twistquad game = Position.laid("2112.1 21212. 1222.2 211112 112112 211122");
            check("f2", game.put(11), 2);
            checkThat("no turn", !game.mustTurn());
            checkThrows("turn(0, 0)", STATE, () -> game.turn(0, 0));
        });
        sentence("behind the turn: it has a line, and the other side has none: it has won", () -> {
            turnGives("...11. 1..... 1..... ..2.2. ...... ...2.2", "a1", 0, 1);
            turnGives("...22. 2..... 2..... ..1.1. ....1. ...1.1", "a1", 0, 2);
        });
        sentence("behind the turn: the other side has a line, and it has none: the other has won", () -> {
            turnGives("2..22. 2..... 2..... ..1.1. .....1 ...1.1", "a6", 0, 2);
            turnGives("1..11. 1..... 1..... ..2.2. ...... ...2.2", "a6", 0, 1);
        });
        sentence("behind the turn: both have a line: a draw", () -> {
            turnGives(".2.11. 12.22. 12.... ...... ...... .....1", "a1", 0, 3);
            turnGives(".1.22. 21.11. 21.... ...... ...... ......", "a1", 0, 3);
        });
        sentence("behind the turn: no cell is empty, and nobody has a line: a draw",
                () -> turnGives(Position.ONE_EMPTY, "a5", 4, 3));
        sentence("a full board with a line of one side alone is won, not drawn", () -> {
            turnGives(Position.ONE_EMPTY, "a5", 7, 2);
            turnGives(Position.ONE_EMPTY, "a5", 2, 1);
        });
        sentence("a full board with lines of both is a draw",
                () -> turnGives(Position.ONE_EMPTY, "a5", 6, 3));
        sentence("with one cell empty and no line the other side is to move", () -> {
            Twistquad game = new Twistquad();
            Position.play(game, Position.WHOLE_GAME.substring(0, 35 * 5 - 1));
            check("marbles", game.marbles(), 35);
            check("result", game.result(), 0);
            check("mover", game.mover(), 2);
        });
        sentence("in each of these cases the game is over", () -> {
            for (int index = 0; index < Position.OVER.length; index++) {
                Twistquad game = Position.OVER[index].game();
                check("result of " + Position.OVER[index], game.result(), RESULTS_OF_OVER[index]);
                check("mover of " + Position.OVER[index], game.mover(), 0);
                check("mustTurn of " + Position.OVER[index], truth(game.mustTurn()), 0);
            }
        });
    }

    private static void newObject() {
        sentence("1: a new game", () -> {
            Twistquad game = new Twistquad();
            checkText("the board", Position.picture(game), "...... ...... ...... ...... ...... ......");
            check("result", game.result(), 0);
            check("mover", game.mover(), 1);
            check("mustTurn", truth(game.mustTurn()), 0);
            check("marbles", game.marbles(), 0);
            check("moves", game.moves(), 0);
        });
        sentence("1: a new game has nothing of another object's", () -> {
            Twistquad first = new Position(null, "c30R f6").game();
            Twistquad second = new Twistquad();
            checkSame("the new one", Position.answers(second), Position.answers(new Twistquad()));
            second.put(0);
            checkText("the old one", Position.record(first), "c30R f6");
        });
    }

    private static void put() {
        sentence("2: cell: 0 to 35, the least and the greatest one among them", () -> {
            for (int cell = 0; cell < 36; cell++) {
                Twistquad game = new Twistquad();
                check("put(" + cell + ")", game.put(cell), 0);
                checkOnly(game, cell, 1);
                Twistquad second = Position.laid(cell == 7
                        ? "...... ...... ...... ..1... ...... ......"
                        : "...... .1.... ...... ...... ...... ......");
                check("put(" + cell + ") of the side 2", second.put(cell), 0);
                check("at(" + cell + ")", second.at(cell), 2);
                check("marbles", second.marbles(), 2);
            }
        });
        sentence("2: throws IndexOutOfBoundsException if there is no such cell", () -> {
            for (Position position : Position.TO_PUT) {
                refuseCells(position, "put", (game, cell) -> game.put(cell));
            }
        });
        sentence("2: .. also if the game is over or a quarter has to be turned: it is named first", () -> {
            for (Position position : Position.OVER) {
                refuseCells(position, "put", (game, cell) -> game.put(cell));
            }
            for (Position position : Position.TURN_DUE) {
                refuseCells(position, "put", (game, cell) -> game.put(cell));
            }
        });
        sentence("2: throws IllegalStateException if the game is over",
                () -> refusePutEverywhere(Position.OVER));
        sentence("2: throws IllegalStateException if a quarter has to be turned",
                () -> refusePutEverywhere(Position.TURN_DUE));
        sentence("2: throws IllegalStateException if the cell is not empty", () -> {
            for (Position position : Position.TO_PUT) {
                Twistquad game = position.game();
                for (int cell = 0; cell < 36; cell++) {
                    int taken = cell;
                    if (game.at(cell) != 0) {
                        checkRefused(STATE, position, "put(" + cell + ")", each -> each.put(taken));
                    }
                }
            }
        });
        sentence("2: returns the result then: 0, 1 or 2", () -> {
            Twistquad game = Position.laid("1111.. ...... ...... ...... ...... 2222..");
            check("put(35)", game.put(35), 0);
            game.undo();
            check("put(4)", game.put(4), 1);
            check("put(34)", Position.laid("1111.. ...... ...... ..1... ...... 2222..").put(34), 2);
        });
    }

    private static void turn() {
        sentence("3: quarter: 0 to 3, way: 0 or 1: each of the eight is made", () -> {
            for (Position position : Position.TURN_DUE) {
                for (int turn = 0; turn < 8; turn++) {
                    Twistquad game = position.game();
                    long first = Geometry.behindTurn(Position.sum(game, 1), turn / 2, turn % 2);
                    long second = Geometry.behindTurn(Position.sum(game, 2), turn / 2, turn % 2);
                    int result = game.turn(turn / 2, turn % 2);
                    String what = "turn " + turn + " of " + position;
                    check(what + ": result", result, resultOf(first, second));
                    check(what + ": result()", game.result(), result);
                    check(what + ": the side 1", Position.sum(game, 1), first);
                    check(what + ": the side 2", Position.sum(game, 2), second);
                    check(what + ": mustTurn", truth(game.mustTurn()), 0);
                }
            }
        });
        sentence("3: throws IndexOutOfBoundsException if there is no such quarter", () -> {
            for (Position position : Position.TURN_DUE) {
                refuseQuarters(position);
            }
        });
        sentence("3: .. also with a way out of range, or if no turn is due: it is named first", () -> {
            for (Position position : Position.all()) {
                refuseQuarters(position);
                checkRefused(BOUNDS, position, "turn(-1, -1)", game -> game.turn(-1, -1));
                checkRefused(BOUNDS, position, "turn(4, 2)", game -> game.turn(4, 2));
                checkRefused(BOUNDS, position, "turn(max, min)",
                        game -> game.turn(Integer.MAX_VALUE, Integer.MIN_VALUE));
            }
        });
        sentence("3: throws IllegalArgumentException if way is out of range", () -> {
            for (Position position : Position.TURN_DUE) {
                refuseWays(position);
            }
        });
        sentence("3: .. also if no turn is due: it is named first", () -> {
            for (Position position : Position.OVER) {
                refuseWays(position);
            }
            for (Position position : Position.TO_PUT) {
                refuseWays(position);
            }
        });
        sentence("3: throws IllegalStateException if the game is over",
                () -> refuseEachTurn(Position.OVER));
        sentence("3: throws IllegalStateException if no marble was put since the last turn",
                () -> refuseEachTurn(Position.TO_PUT));
    }

    private static void undo() {
        sentence("4: throws IllegalStateException if nothing was done since the game was begun", () -> {
            checkRefused(STATE, new Position(null, ""), "undo", game -> truth(game.undo()));
            checkRefused(STATE, new Position(null, "a1 -"), "undo", game -> truth(game.undo()));
            checkRefused(STATE, new Position(null, "a10R - -"), "undo", game -> truth(game.undo()));
        });
        sentence("4: throws IllegalStateException if nothing was done since the game was laid", () -> {
            for (Position position : Position.all()) {
                if (position.moves().isEmpty()) {
                    checkRefused(STATE, position, "undo", game -> truth(game.undo()));
                }
            }
            checkRefused(STATE, new Position("1111.. ...... ...... ...... ...... 2222..", "e1 -"),
                    "undo", game -> truth(game.undo()));
        });
        sentence("4: .. what was done before the game was laid can't be taken back", () -> {
            Twistquad game = new Position(null, "c30R f6").game();
            game.lay(1, 2);
            checkThrows("undo", STATE, game::undo);
            checkText("the board", Position.picture(game), "12.... ...... ...... ...... ...... ......");
        });
        sentence("4: .. what was refused was not done", () -> {
            Twistquad game = new Twistquad();
            checkThrows("put(36)", BOUNDS, () -> game.put(36));
            checkThrows("turn(0, 0)", STATE, () -> game.turn(0, 0));
            checkThrows("undo", STATE, game::undo);
            game.put(0);
            checkThrows("put(1)", STATE, () -> game.put(1));
            check("undo", truth(game.undo()), 0);
        });
        sentence("4: takes the last marble or turn back, whichever was later; true if it was a turn",
                TwistquadGameEdgesTest::aWholeGameBack);
        sentence("4: a marble or a turn that ended the game is taken back, and the game goes on", () -> {
            for (Position position : Position.OVER) {
                if (!position.moves().isEmpty()) {
                    checkOpenAgain(position);
                }
            }
        });
        sentence("4: what was taken back can be done otherwise", () -> {
            Twistquad game = new Position("...11. 1..... 1..... ..2.2. ...... ...2.2", "a10R -").game();
            check("another turn", game.turn(0, 1), 0);
            checkText("the record", Position.record(game), "a10L");
            game.undo();
            game.undo();
            check("another marble", game.put(35 - 1), 0);
            checkText("the record then", Position.record(game), "e6");
        });
    }

    private static void lay() {
        sentence("5: the sums have the bits 0 to 35, the least and the greatest one among them", () -> {
            for (int cell = 0; cell < 36; cell++) {
                Twistquad game = new Twistquad();
                check("lay", game.lay(1L << cell, 0), 0);
                checkOnly(game, cell, 1);
                int other = (cell + 1) % 36;
                check("lay", game.lay(1L << other, 1L << cell), 0);
                check("at(" + cell + ")", game.at(cell), 2);
                check("at(" + other + ")", game.at(other), 1);
                check("marbles", game.marbles(), 2);
            }
        });
        sentence("5: throws IllegalArgumentException if a sum has another bit than 0 to 35", () -> {
            for (int bit = 36; bit < 64; bit++) {
                long more = 1L << bit;
                refuseLay(more, 0);
                refuseLay(more, 1);
                refuseLay(1, more);
                refuseLay(3 | more, 4);
                refuseLay(3, 4 | more);
                refuseLay(more, more);
                refuseLay(0, more);
            }
            refuseLay(Long.MIN_VALUE, 0);
            refuseLay(Long.MIN_VALUE, Long.MIN_VALUE + 1);
            refuseLay(Long.MAX_VALUE, Long.MIN_VALUE);
            refuseLay(-1, 0);
            refuseLay(0, -1);
            refuseLay(-1, -1);
        });
        sentence("5: throws IllegalArgumentException if both have the same bit", () -> {
            for (int cell = 0; cell < 36; cell++) {
                long same = 1L << cell;
                long other = 1L << (cell + 1) % 36;
                refuseLay(same, same);
                refuseLay(same | other, same);
                refuseLay(same | 1L << (cell + 2) % 36, same | other);
            }
        });
        sentence("5: throws IllegalArgumentException if the side 1 has not as many, or one more", () -> {
            long all = (1L << 36) - 1;
            long half = Position.sum(Position.FULL, 1);
            long rest = all & ~half;
            refuseLay(0, 1);
            refuseLay(3, 0);
            refuseLay(0, 3);
            refuseLay(7, 0);
            refuseLay(7, 8);
            refuseLay(1, 6);
            refuseLay(all, 0);
            refuseLay(0, all);
            refuseLay(half | rest & 1L << 35, rest & ~(1L << 35));
            refuseLay(half & ~1L, rest);
            check("none and none", new Twistquad().lay(0, 0), 0);
            check("18 and 18", new Twistquad().lay(half, rest), 3);
            check("18 and 17", new Twistquad().lay(half, rest & ~(1L << 35)), 0);
        });
        sentence("5: a lay that throws changes nothing in any game", () -> {
            for (Position position : Position.all()) {
                checkRefused(ARGUMENT, position, "lay(1, 1)", game -> game.lay(1, 1));
                checkRefused(ARGUMENT, position, "lay(0, 1)", game -> game.lay(0, 1));
                checkRefused(ARGUMENT, position, "lay(3, 0)", game -> game.lay(3, 0));
                checkRefused(ARGUMENT, position, "lay(1L << 36, 0)", game -> game.lay(1L << 36, 0));
                checkRefused(ARGUMENT, position, "lay(-1, -1)", game -> game.lay(-1, -1));
            }
        });
        sentence("5: the side 1 is to move, if it has as many marbles as the side 2", () -> {
            checkMover("...... ...... ...... ...... ...... ......", 1);
            checkMover("1..... ...... ...... ...... ...... .....2", 1);
            checkMover("112211 221122 112211 221122 112211 221.2.", 1);
        });
        sentence("5: the side 2 is to move, if the side 1 has one more", () -> {
            checkMover("1..... ...... ...... ...... ...... ......", 2);
            checkMover("11.... ...... ...... ...... ...... .....2", 2);
            checkMover("112211 221122 112211 221122 112211 22112.", 2);
        });
        sentence("5: if there are lines, the game is over, with the result as if a turn had been made", () -> {
            layGives("11111. ...... ...... ...... ...... 2222..", 1);
            layGives("11111. ...... ...... ...... ...... 2222.2", 1);
            layGives("22222. ...... ...... ...... ...... 1111.1", 2);
            layGives("22222. ..1... ...... ...... ...... 1111.1", 2);
            layGives("111111 ...... ...... ...... ...... 22.222", 1);
            layGives("11111. ...... ...... ...... ...... 22222.", 3);
            layGives("111111 222222 ...... ...... ...... ......", 3);
            layGives("11111. 22122. 112211 221122 1.2211 221122", 1);
        });
        sentence("5: if no cell is empty, the game is over: drawn, but for a line of one side", () -> {
            layGives("112211 221122 112211 221122 112211 221122", 3);
            layGives("112112 221212 222111 211112 221212 121212", 1);
            layGives("111121 222212 112122 122112 211122 121221", 2);
            layGives("122222 111221 121122 122211 121221 211112", 3);
        });
        sentence("5: with no line and one empty cell it is open", () -> {
            layGives("112211 221122 112211 221122 112211 22112.", 0);
            layGives(Position.ONE_EMPTY, 0);
        });
        sentence("5: lays a game, whatever went before, with nothing left of it", () -> {
            for (Position position : Position.all()) {
                Twistquad game = position.game();
                check("lay", game.lay(Position.sum(Position.ONE_EMPTY, 1),
                        Position.sum(Position.ONE_EMPTY, 2)), 0);
                checkSame("laid behind " + position, Position.answers(game),
                        Position.answers(Position.laid(Position.ONE_EMPTY)));
                checkThrows("undo of what went before", STATE, game::undo);
            }
        });
    }

    private static void whatIsTold() {
        sentence("6: the result is told, OPEN to DRAW", () -> {
            check("new", new Twistquad().result(), Twistquad.OPEN);
            check("a turn due", new Position(null, "a1").game().result(), Twistquad.OPEN);
            check("the side 1", Position.laid("11111. ...... ...... ...... ...... 2222..").result(),
                    Twistquad.FIRST);
            check("the side 2", Position.laid("22222. ...... ...... ...... ...... 1111.1").result(),
                    Twistquad.SECOND);
            check("both", Position.laid("11111. ...... ...... ...... ...... 22222.").result(),
                    Twistquad.DRAW);
            check("full", Position.laid(Position.FULL).result(), Twistquad.DRAW);
            check("a whole game", new Position(null, Position.WHOLE_GAME).game().result(),
                    Twistquad.DRAW);
        });
        sentence("7: the side that is to put", () -> {
            check("new", new Twistquad().mover(), 1);
            check("behind a turn", new Position(null, "a10R").game().mover(), 2);
            check("behind two", new Position(null, "a10R f63R").game().mover(), 1);
            check("35 marbles", Position.laid(Position.ONE_EMPTY).mover(), 2);
        });
        sentence("7: the side that is to turn", () -> {
            check("the first marble", new Position(null, "a1").game().mover(), 1);
            check("the second", new Position(null, "a10R f6").game().mover(), 2);
            check("the last", new Position(Position.ONE_EMPTY, "a5").game().mover(), 2);
        });
        sentence("7: 0 if the game is over", () -> {
            for (Position position : Position.OVER) {
                check("mover of " + position, position.game().mover(), 0);
            }
        });
        sentence("8: a quarter has to be turned behind a marble, and only there", () -> {
            for (Position position : Position.TURN_DUE) {
                check("mustTurn of " + position, truth(position.game().mustTurn()), 1);
            }
            for (Position position : Position.TO_PUT) {
                check("mustTurn of " + position, truth(position.game().mustTurn()), 0);
            }
        });
        sentence("8: .. and not if the game is over", () -> {
            for (Position position : Position.OVER) {
                check("mustTurn of " + position, truth(position.game().mustTurn()), 0);
            }
        });
        sentence("9: cell: 0 to 35: 0 if it is empty, otherwise the side of the marble", () -> {
            Twistquad game = Position.laid("1...12 .2.... 2....1 1....2 ...... 21...1");
            String due = "1...12.2....2....11....2......21...1".replace('.', '0');
            for (int cell = 0; cell < 36; cell++) {
                check("at(" + cell + ")", game.at(cell), due.charAt(cell) - '0');
            }
            checkText("a full board", Position.picture(Position.laid(Position.FULL)), Position.FULL);
        });
        sentence("9: throws IndexOutOfBoundsException if there is no such cell", () -> {
            for (Position position : Position.all()) {
                refuseCells(position, "at", (game, cell) -> game.at(cell));
            }
        });
        sentence("10: how many marbles are on the board, from 0 to 36",
                () -> eachNumberOfMarbles((game, due) -> check("marbles", game.marbles(), due)));
        sentence("11: the share: how many, as a float, divided by 36, as a float",
                () -> eachNumberOfMarbles((game, due) -> checkThat("share of " + due,
                        game.share() == (float) due / 36f)));
        sentence("11: the share of none is 0, of all is 1", () -> {
            checkThat("none", Float.floatToIntBits(new Twistquad().share()) == 0);
            checkThat("all", Position.laid(Position.FULL).share() == 1f);
            checkThat("one", new Position(null, "a1").game().share() == 0.027777778f);
            checkThat("35", Position.laid(Position.ONE_EMPTY).share() == 0.9722222f);
        });
    }

    // ---- the terms

    private static void theLastOf512Calls() {
        Twistquad played = new Twistquad();
        int calls = 0;
        for (int round = 0; round < 3; round++) {
            Position.play(played, Position.WHOLE_GAME);
            calls += 72;
            for (int step = 0; step < 72; step++) {
                check("undo", truth(played.undo()), step % 2 == 0 ? 1 : 0);
                calls++;
            }
        }
        for (int cell = 0; calls < 508; cell++) {
            check("at", played.at(cell % 36), 0);
            calls++;
        }
        check("the 509th call", played.put(35), 0);
        check("the 510th call", played.turn(3, 1), 0);
        check("the 511th call", played.at(33 - 12), 0);
        check("the 512th call", played.at(23), 1);

        Twistquad refused = new Twistquad();
        Twistquad laid = new Twistquad();
        for (int call = 0; call < 511; call++) {
            checkThrows("put(-1)", BOUNDS, () -> refused.put(-1));
            check("lay", laid.lay(1L << call % 36, 0), 0);
        }
        check("the 512th call, the others refused", refused.put(35), 0);
        check("the 512th call, the others lays", laid.put(35), 0);
    }

    private static void theNumbersOfCells() {
        for (int row = 0; row < 6; row++) {
            for (int column = 0; column < 6; column++) {
                Twistquad game = new Twistquad();
                game.put(6 * row + column);
                String due = "" + "abcdef".charAt(column) + "123456".charAt(row);
                checkText("the row " + row + " and the column " + column,
                        Position.record(game), due);
            }
        }
    }

    private static void otherQuartersStay() {
        for (int cell = 0; cell < 36; cell++) {
            for (int turn = 0; turn < 8; turn++) {
                if (turn / 2 != Geometry.quarterOf(cell)) {
                    Twistquad game = new Twistquad();
                    game.put(cell);
                    game.turn(turn / 2, turn % 2);
                    checkOnly(game, cell, 1);
                }
            }
        }
    }

    /** The places of the quarter 0 to which its cells go, row by row; and so in the other quarters. */
    private static void goesTo(int way, int[] due) {
        int[] inside = {0, 1, 2, 6, 7, 8, 12, 13, 14};
        int[] corners = {0, 3, 18, 21};
        for (int quarter = 0; quarter < 4; quarter++) {
            for (int place = 0; place < 9; place++) {
                int from = corners[quarter] + inside[place];
                int to = corners[quarter] + due[place];
                Twistquad game = new Twistquad();
                game.put(from);
                game.turn(quarter, way);
                checkOnly(game, to, 1);
                // A marble of the other side goes the same way; what is put meanwhile stands elsewhere.
                int far = corners[3 - quarter];
                Twistquad second = new Twistquad();
                second.lay(1L << far, 1L << from);
                second.put(far + 1);
                second.turn(quarter, way);
                check("the side 2 from " + from, second.at(to), 2);
                check("its marbles", Long.bitCount(Position.sum(second, 2)), 1);
            }
        }
    }

    private static void aLineByTheMarble() {
        check("places", Geometry.places().size(), 32);
        for (int[] place : Geometry.places()) {
            for (int last : place) {
                for (int side = 1; side <= 2; side++) {
                    Twistquad game = besides(place, last, side);
                    String what = "the side " + side + " on " + last;
                    check(what + ": before", game.result(), 0);
                    check(what + ": put", game.put(last), side);
                    check(what + ": result", game.result(), side);
                    check(what + ": mover", game.mover(), 0);
                }
            }
        }
    }

    private static void fourAreNoLine() {
        for (int[] place : Geometry.places()) {
            for (int missing : place) {
                for (int last : place) {
                    if (missing != last) {
                        long three = bits(place) & ~bits(missing, last);
                        Twistquad game = new Twistquad();
                        game.lay(three, Geometry.spread(bits(place), 3));
                        check("put(" + last + ") without " + missing, game.put(last), 0);
                        checkThat("a turn is due", game.mustTurn());
                    }
                }
            }
        }
    }

    private static void noLineRoundAnEdge() {
        for (int[] run : Geometry.roundAnEdge()) {
            for (int last : run) {
                Twistquad game = besides(run, last, 1);
                check("put(" + last + ")", game.put(last), 0);
                checkThat("a turn is due", game.mustTurn());
                check("lines", game.lines(1), 0);
            }
        }
    }

    private static void noLineOfBothSides() {
        for (int[] place : Geometry.places()) {
            for (int other : place) {
                long own = bits(place) & ~(1L << other);
                for (int last : place) {
                    if (last != other) {
                        long others = 1L << other | Geometry.spread(bits(place), 2);
                        Twistquad game = new Twistquad();
                        game.lay(own & ~(1L << last), others);
                        check("put(" + last + ") beside " + other, game.put(last), 0);
                    }
                }
            }
        }
    }

    /** A game with the side's marbles on all these cells but the last one, and the side to move. */
    private static Twistquad besides(int[] cells, int last, int side) {
        long own = bits(cells) & ~(1L << last);
        long other = Geometry.spread(bits(cells), side == 1 ? 4 : 5);
        Twistquad game = new Twistquad();
        game.lay(side == 1 ? own : other, side == 1 ? other : own);
        check("mover", game.mover(), side);
        return game;
    }

    private static void turnGives(String picture, String marble, int turn, int due) {
        Twistquad game = new Position(picture, marble).game();
        String what = "turn " + turn + " behind " + marble + " on " + picture;
        checkThat(what + ": a turn is due", game.mustTurn());
        check(what, game.turn(turn / 2, turn % 2), due);
        check(what + ": result", game.result(), due);
        check(what + ": mover", game.mover(), 0);
    }

    private static int resultOf(long first, long second) {
        boolean one = Geometry.places(first, 5, 0, 0) > 0;
        boolean other = Geometry.places(second, 5, 0, 0) > 0;
        if (one || other) {
            return one && other ? 3 : one ? 1 : 2;
        }
        return Long.bitCount(first | second) == 36 ? 3 : 0;
    }

    // ---- put, turn and at

    private interface CellCall {
        long on(Twistquad game, int cell);
    }

    private static void refuseCells(Position position, String name, CellCall call) {
        for (int cell : NO_CELLS) {
            checkRefused(BOUNDS, position, name + "(" + cell + ")", game -> call.on(game, cell));
        }
    }

    private static void refusePutEverywhere(Position[] positions) {
        for (Position position : positions) {
            for (int each = 0; each < 36; each++) {
                int cell = each;
                checkRefused(STATE, position, "put(" + cell + ")", game -> game.put(cell));
            }
        }
    }

    private static void refuseQuarters(Position position) {
        for (int quarter : NO_QUARTERS) {
            checkRefused(BOUNDS, position, "turn(" + quarter + ", 0)", game -> game.turn(quarter, 0));
            checkRefused(BOUNDS, position, "turn(" + quarter + ", 1)", game -> game.turn(quarter, 1));
        }
    }

    private static void refuseWays(Position position) {
        for (int way : NO_WAYS) {
            checkRefused(ARGUMENT, position, "turn(0, " + way + ")", game -> game.turn(0, way));
            checkRefused(ARGUMENT, position, "turn(3, " + way + ")", game -> game.turn(3, way));
        }
    }

    private static void refuseEachTurn(Position[] positions) {
        for (Position position : positions) {
            for (int each = 0; each < 8; each++) {
                int turn = each;
                checkRefused(STATE, position, "turn(" + turn / 2 + ", " + turn % 2 + ")",
                        game -> game.turn(turn / 2, turn % 2));
            }
        }
    }

    private static void checkOnly(Twistquad game, int cell, int side) {
        check("the side " + side + " on " + cell, Position.sum(game, side), 1L << cell);
        check("marbles", game.marbles(), 1);
    }

    // ---- undo

    private static void aWholeGameBack() {
        Twistquad back = new Twistquad();
        Position.play(back, Position.WHOLE_GAME);
        for (int step = 71; step >= 0; step--) {
            check("undo of the step " + step, truth(back.undo()), step % 2);
            check("mustTurn", truth(back.mustTurn()), step % 2);
            check("moves", back.moves(), (step + 1) / 2);
            check("mover", back.mover(), step / 2 % 2 + 1);
            check("marbles", back.marbles(), (step + 1) / 2);
        }
        checkThrows("undo of nothing", STATE, back::undo);
        for (int step = 71; step >= 0; step -= 5) {
            Twistquad part = new Twistquad();
            Position.play(part, Position.WHOLE_GAME);
            for (int undone = 71; undone >= step; undone--) {
                part.undo();
            }
            String before = Position.WHOLE_GAME.substring(0, step / 2 * 5 + step % 2 * 2);
            checkText("the board before the step " + step, Position.picture(part),
                    Position.picture(new Position(null, before).game()));
        }
    }

    private static void checkOpenAgain(Position position) {
        String moves = position.moves();
        boolean byTurn = moves.length() % 5 == 4;
        String before = byTurn ? moves.substring(0, moves.length() - 2)
                : moves.substring(0, Math.max(0, moves.length() - 3));
        Twistquad game = position.game();
        check("undo in " + position, truth(game.undo()), byTurn ? 1 : 0);
        checkSame("back from " + position, Position.answers(game),
                Position.answers(new Position(position.picture(), before).game()));
        check("result", game.result(), 0);
    }

    // ---- lay

    private static void refuseLay(long first, long second) {
        checkRefused(ARGUMENT, new Position("...11. 1..... 1..... ..2.2. ...... ...2.2", "f20R e6"),
                "lay(" + first + ", " + second + ")", game -> game.lay(first, second));
    }

    private static void checkMover(String picture, int due) {
        Twistquad game = Position.laid(picture);
        check("mover of " + picture, game.mover(), due);
        int empty = picture.replace(" ", "").indexOf('.');
        game.put(empty);
        check("whose marble on " + picture, game.at(empty), due);
    }

    private static void layGives(String picture, int due) {
        Twistquad game = new Twistquad();
        check("lay of " + picture,
                game.lay(Position.sum(picture, 1), Position.sum(picture, 2)), due);
        check("result of " + picture, game.result(), due);
        check("mover of " + picture, truth(game.mover() == 0), truth(due != 0));
        check("mustTurn of " + picture, truth(game.mustTurn()), 0);
        checkText("the board of " + picture, Position.picture(game), picture);
    }

    // ---- marbles and share

    private interface NumberCheck {
        void of(Twistquad game, int due);
    }

    private static void eachNumberOfMarbles(NumberCheck numberCheck) {
        Twistquad game = new Twistquad();
        numberCheck.of(game, 0);
        String[] moves = Position.WHOLE_GAME.split(" ");
        for (int move = 0; move < 36; move++) {
            Position.play(game, moves[move].substring(0, 2));
            numberCheck.of(game, move + 1);
            game.turn(moves[move].charAt(2) - '0', moves[move].charAt(3) == 'R' ? 0 : 1);
            numberCheck.of(game, move + 1);
        }
        for (int left = 35; left >= 0; left--) {
            game.undo();
            game.undo();
            numberCheck.of(game, left);
        }
    }
}
