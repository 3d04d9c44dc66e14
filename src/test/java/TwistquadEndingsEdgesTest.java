import java.util.ArrayList;
import java.util.List;

/** The sentences of the document that name an edge of threats and endings: the promises 20 to 24. */
public final class TwistquadEndingsEdgesTest extends Checks {
    private static final int[] NO_CELLS = beyond(0, 35);

    /** A position of at most three empty cells, with its value and its best move. */
    private record Ending(Position position, int value, int best) {
        Ending(String picture, String marble, int value, int best) {
            this(new Position(picture, marble), value, best);
        }
    }

    // A marble is to be put: three endings, of the values -1, 0 and 1, for each number of empty cells.
    private static final Ending[] ONE_EMPTY = {
        new Ending("221212 111212 221211 212221 21111. 112122", "", -1, 232),
        new Ending("122111 121122 112211 122121 221212 1122.2", "", 0, 273),
        new Ending("111212 211121 111222 22.121 222121 221211", "", 1, 160),
    };
    private static final Ending[] TWO_EMPTY = {
        new Ending("212122 121211 111222 12.221 22221. 112111", "", -1, 160),
        new Ending("121111 2122.2 2121.1 111212 222212 122112", "", 0, 130),
        new Ending(".22112 121221 112222 121211 1.1121 222121", "", 1, 0),
    };
    private static final Ending[] THREE_EMPTY = {
        new Ending("122221 111121 122211 111122 .21.22 1.1222", "", -1, 192),
        new Ending("222121 22.211 121221 222111 111212 21.11.", "", 0, 66),
        new Ending("121122 112221 221.21 1.2222 121211 .11112", "", 1, 120),
    };

    // A turn is due, with no to three cells empty behind the marble.
    private static final Ending[] NONE_EMPTY_TO_TURN = {
        new Ending("221212 111212 221211 212221 21111. 112122", "f5", -1, 0),
        new Ending("221121 111212 12121. 222121 221212 121112", "f3", 0, 3),
        new Ending("1112.1 211121 222111 222122 111122 122212", "e1", 1, 5),
    };
    private static final Ending[] ONE_EMPTY_TO_TURN = {
        new Ending("121111 2122.2 2121.1 111212 222212 122112", "e2", -1, 0),
        new Ending("22211. .11221 121221 122221 212111 112212", "a2", 0, 5),
        new Ending(".22112 121221 112222 121211 1.1121 222121", "b5", 1, 7),
    };
    private static final Ending[] TWO_EMPTY_TO_TURN = {
        new Ending("111221 211.11 122221 22.12. 111222 212211", "f4", -1, 0),
        new Ending("111221 211.11 122221 22.12. 111222 212211", "d2", 0, 3),
        new Ending("111221 211.11 122221 22.12. 111222 212211", "c4", 1, 6),
    };
    private static final Ending[] THREE_EMPTY_TO_TURN = {
        new Ending("112211 211211 2222.1 2.121. 221112 1222.1", "b4", -1, 0),
        new Ending("211222 1.1121 2.2221 .12211 .11222 212111", "b3", 0, 7),
        new Ending("211222 1.1121 2.2221 .12211 .11222 212111", "b2", 1, 0),
    };

    private static final Ending[] BEST_IS_0 = {
        new Ending(".21122 211212 112221 121112 111211 222212", "", -1, 0),
        new Ending(".22121 121211 221211 221112 112222 221111", "", 0, 0),
        new Ending(".21212 122212 112111 122211 211222 111221", "", 1, 0),
        new Ending(".11221 2.1212 111121 122112 221222 221211", "", -1, 0),
        new Ending(".12221 212121 112112 .21121 121212 121222", "", 0, 0),
        new Ending(".22212 .12221 221121 11122. 221211 121111", "", -1, 0),
        new Ending(".12122 12121. 112121 212122 12.211 211221", "", 0, 0),
        new Ending("..2222 112111 111222 112212 2.2111 122112", "", 1, 0),
    };
    private static final Ending[] BEST_IS_287 = {
        new Ending("112112 221112 212212 221121 121121 21212.", "", 1, 287),
        new Ending("121.11 212111 122221 222212 211222 11121.", "", 0, 287),
        new Ending("21.121 112212 222121 211221 122111 11222.", "", 1, 287),
        new Ending("111222 112212 111222 221111 2121.2 21.12.", "", 0, 287),
        new Ending("121.11 211221 212211 122112 221122 12.12.", "", 1, 287),
    };
    private static final Ending[] BEST_TURN_IS_7 = {
        new Ending("222122 111211 222121 111122 11.121 221122", "c5", 0, 7),
        new Ending("221112 211212 222112 111122 .22121 212111", "a5", 1, 7),
        new Ending(".22112 121221 112222 121211 1.1121 222121", "b5", 1, 7),
        new Ending("211222 1.1121 2.2221 .12211 .11222 212111", "b3", 0, 7),
    };

    private static final Ending[] LOWER_CELL_BY_TURN = {
        new Ending("222212 2.1211 121111 211.11 221222 222111", "", 1, 58),
        new Ending("112.11 121112 212212 21..11 112222 121222", "", 1, 28),
    };
    private static final Ending[] LOWER_CELL_BY_MARBLE = {
        new Ending("122221 121111 2122.1 221212 112211 21.212", "", 1, 128),
        new Ending("112221 11112. 221221 1122.2 221.21 112211", "", 1, 176),
    };
    private static final Ending[] LOWER_CELL_IS_WORSE = {
        new Ending("121121 .22121 111121 22.212 221211 212212", "", 1, 161),
        new Ending("221.22 111212 221121 221121 122111 1.2212", "", 0, 250),
        new Ending("1.1221 222212 212122 112112 2.11.1 211112", "", 0, 204),
    };

    // The cell wins by its marble, though no turn behind it would.
    private static final String[] MARBLE_WINS = {
        "122112 112222 122.21 211211 212211 111221",
        "222211 21112. 2.1111 122212 121112 222112",
        "2112.1 21212. 1222.2 211112 112112 211122",
    };
    private static final int[] MARBLE_WINS_ON = {15, 13, 11};

    // Four empty cells: too many for a marble to be put, but one put leaves three.
    private static final String[] FOUR_EMPTY = {
        "112211 221122 112211 221122 112211 22....",
        "112211 221122 112211 221122 .12211 2.1.2.",
        "211222 1.1121 2.2221 .12211 .11222 212111",
    };
    private static final String[] FIVE_EMPTY = {
        "112211 221122 112211 221122 112211 2.....",
        "112211 221122 .12211 221122 .1221. 1.1.21",
    };

    public static void main(String[] args) {
        winningCells();
        winningTurns();
        value();
        valueOnBoards();
        bestMove();
        end("TwistquadEndingsEdgesTest");
    }

    private static void winningCells() {
        sentence("20: none on the empty board, and on one without a four", () -> {
            check("new", new Twistquad().winningCells(), 0);
            checkWinningCells("111... ...... ...... ...... ...... 222...", 0);
            checkWinningCells(".12122 1.122. 211121 212221 121211 112212", 0);
            checkWinningCells(Position.ONE_EMPTY, 0);
        });
        sentence("20: one and several, for the side 1", () -> {
            checkWinningCells("1111.. ...... ...... ...... ...... 2222..", 1);
            checkWinningCells(".1111. ...... ...... ...... ...... 2222..", 2);
            checkWinningCells("111221 212221 212222 1111.1 1.2222 211211", 2);
            checkWinningCells(".1111. 1.2..2 1..2.. 1...2. 1....2 ..2.22", 3);
        });
        sentence("20: one and several, for the side 2", () -> {
            checkWinningCells("1111.. ...... 1..... ...... ...... 2222..", 1);
            checkWinningCells("1111.. ...... 1..... ...... ...... .2222.", 2);
            checkWinningCells(".12111 122122 2121.1 211222 122121 11212.", 3);
        });
        sentence("20: .. of the side that is to move: what would win for the other does not count", () -> {
            checkWinningCells("11.1.. ...... 1..... ...... ...... 2222..", 0);
            checkWinningCells("1111.. ...... ...... ...... ...... 22.2..", 0);
            checkWinningCells("1111.. ...... ...... ...... ...... .2222.", 1);
            checkWinningCells(".1111. ...... 1..... ...... ...... 2222..", 1);
        });
        sentence("20: an empty cell that would make two lines counts once",
                () -> checkWinningCells("1111.2 ....1. 22..1. ..2.1. ....1. 2..222", 1));
        sentence("20: the first cell, the last one, and the last empty one", () -> {
            checkWinningCells(".1111. 2..... 2..... 2..... 2..... ......", 2);
            checkWinningCells(".11112 2..... 2..... 2..... ...... ......", 1);
            checkWinningCells("2..... 2..... 2..... 2..... ...... .1111.", 2);
            checkWinningCells("2..... 2..... 2....1 2..... ...... 21111.", 1);
            checkWinningCells("211211 222111 12.122 212211 222111 122211", 1);
        });
        sentence("20: only empty cells: a marble on the other's line wins nothing",
                () -> checkWinningCells("11112. ...... ...... ...... ...... 222.1.", 0));
        sentence("20: by itself: a turn that would be needed does not count", () -> {
            checkWinningCells("...11. 1..... 1..... ..2.2. ...... ...2.2", 0);
            check("winningTurns there", Position.laid("...11. 1..... 1..... ..2.2. ...... ...2.2")
                    .winningTurns(0), 1);
        });
        sentence("20: as many as put answers with the side that is to move", () -> {
            for (Position position : endingsAndToPut()) {
                Twistquad game = position.game();
                int due = 0;
                for (int cell = 0; cell < 36; cell++) {
                    Twistquad played = position.game();
                    due += game.at(cell) == 0 && played.put(cell) != 0 ? 1 : 0;
                }
                check("winningCells of " + position, game.winningCells(), due);
            }
        });
        sentence("20: throws IllegalStateException if the game is over", () -> {
            for (Position position : Position.OVER) {
                checkRefused(STATE, position, "winningCells", game -> game.winningCells());
            }
        });
        sentence("20: throws IllegalStateException if a quarter has to be turned", () -> {
            for (Position position : Position.TURN_DUE) {
                checkRefused(STATE, position, "winningCells", game -> game.winningCells());
            }
        });
        sentence("20: asking changes nothing", () -> {
            for (Position position : Position.TO_PUT) {
                checkUnchanged(position, game -> game.winningCells());
            }
        });
    }

    private static void winningTurns() {
        sentence("21: cell: 0 to 35: none wins on the empty board", () -> {
            Twistquad game = new Twistquad();
            for (int cell = 0; cell < 36; cell++) {
                check("winningTurns(" + cell + ")", game.winningTurns(cell), 0);
            }
        });
        sentence("21: 0 to 8 turns of the side 1", () -> {
            checkWinningTurns("1211.1 122211 212122 212112 2.2121 211221", 25, 0);
            checkWinningTurns("211221 221.22 221211 221111 112121 22.211", 9, 1);
            checkWinningTurns("1211.1 122211 212122 212112 2.2121 211221", 4, 2);
            checkWinningTurns("1221.2 212112 122121 221111 212212 21112.", 4, 3);
            checkWinningTurns("1221.2 212112 122121 221111 212212 21112.", 35, 4);
            checkWinningTurns("21.222 112112 211121 22211. 111121 221222", 23, 5);
            checkWinningTurns(".22221 11.211 121111 122211 212212 221122", 8, 6);
            checkWinningTurns("22121. 111211 111221 222121 111212 222.22", 33, 7);
            checkWinningTurns("122111 112222 112221 212211 2.1.12 112212", 25, 8);
        });
        sentence("21: 0 to 8 turns of the side 2", () -> {
            checkWinningTurns(".22112 211221 221122 121221 1111.. 112212", 0, 0);
            checkWinningTurns("121222 122111 1122.1 12.112 .21211 212212", 16, 1);
            checkWinningTurns("11211. 122211 221121 112221 112122 221212", 5, 2);
            checkWinningTurns("12.212 121222 111222 2112.2 11211. 111221", 22, 3);
            checkWinningTurns("12.212 121222 111222 2112.2 11211. 111221", 2, 4);
            checkWinningTurns("122112 122112 12111. 112222 222121 21..11", 17, 5);
            checkWinningTurns("122111 211121 .12112 222121 122221 122121", 12, 6);
            checkWinningTurns("222111 2112.2 121221 211121 121222 112211", 10, 7);
            checkWinningTurns("111121 2.1212 122212 112.22 11.212 122211", 21, 8);
        });
        sentence("21: 8 if it would win by the marble itself, whatever the turns would do", () -> {
            checkWinningTurns("1111.. ...... ...... ...... ...... 2222..", 4, 8);
            checkWinningTurns("1111.. ...... 1..... ...... ...... 2222..", 34, 8);
            checkWinningTurns(".1111. ...... ...... ...... ...... 2222..", 0, 8);
            checkWinningTurns("2..... 2..... 2....1 2..... ...... 21111.", 35, 8);
            for (int index = 0; index < MARBLE_WINS.length; index++) {
                checkWinningTurns(MARBLE_WINS[index], MARBLE_WINS_ON[index], 8);
                check("turns alone", turnsThatWin(MARBLE_WINS[index], MARBLE_WINS_ON[index]), 0);
            }
        });
        sentence("21: 8 also if each of the turns wins, and the marble does not", () -> {
            checkEachTurnWins("2..21. 111212 ..2.1. .1.2.. .12111 .12222", 1);
            checkEachTurnWins("...12. 222.21 1.1.2. 1211.. .21222 121.11", 2);
        });
        sentence("21: a turn that gives both sides a line does not win", () -> {
            checkWinningTurns(".2.11. 12.22. 12.... ...... ...... .....1", 0, 0);
            checkWinningTurns(".1.22. 21.11. 21.... ...... ...... ......", 0, 0);
        });
        sentence("21: a turn that gives the other side a line does not win", () -> {
            checkWinningTurns("2..22. 2..... 2..... ..1.1. .....1 ...1.1", 30, 0);
            checkWinningTurns("1..11. 1..... 1..... ..2.2. ...... ...2.2", 30, 0);
        });
        sentence("21: as many as the turns tell behind the marble", () -> {
            for (Position position : endingsAndToPut()) {
                compareWinningTurns(position);
            }
        });
        sentence("21: throws IndexOutOfBoundsException if there is no such cell", () -> {
            for (Position position : Position.TO_PUT) {
                refuseNoCells(position);
            }
        });
        sentence("21: .. also if the game is over or a quarter has to be turned: it is named first", () -> {
            for (Position position : Position.OVER) {
                refuseNoCells(position);
            }
            for (Position position : Position.TURN_DUE) {
                refuseNoCells(position);
            }
        });
        sentence("21: throws IllegalStateException if the game is over", () -> {
            for (Position position : Position.OVER) {
                refuseEachCell(position);
            }
        });
        sentence("21: throws IllegalStateException if a quarter has to be turned", () -> {
            for (Position position : Position.TURN_DUE) {
                refuseEachCell(position);
            }
        });
        sentence("21: throws IllegalStateException if the cell is not empty", () -> {
            for (Position position : Position.TO_PUT) {
                Twistquad game = position.game();
                for (int each = 0; each < 36; each++) {
                    if (game.at(each) != 0) {
                        refuseCell(STATE, position, each);
                    }
                }
            }
        });
        sentence("21: asking changes nothing", () -> {
            for (Position position : Position.TO_PUT) {
                checkUnchanged(position, game -> game.winningTurns(game.at(35) == 0 ? 35 : 24));
            }
        });
    }

    private static void value() {
        sentence("22: three cells are empty: 1, 0 and -1",
                () -> checkValues(THREE_EMPTY, game -> game.value()));
        sentence("22: two and one cell are empty: 1, 0 and -1", () -> {
            checkValues(TWO_EMPTY, game -> game.value());
            checkValues(ONE_EMPTY, game -> game.value());
        });
        sentence("22: .. for the side that is to turn, with three to none empty: 1, 0 and -1", () -> {
            checkValues(THREE_EMPTY_TO_TURN, game -> game.value());
            checkValues(TWO_EMPTY_TO_TURN, game -> game.value());
            checkValues(ONE_EMPTY_TO_TURN, game -> game.value());
            checkValues(NONE_EMPTY_TO_TURN, game -> game.value());
        });
        sentence("22: a marble that wins by itself, though no turn behind it would, is a win",
                () -> checkMarbleWins(game -> game.value()));
        sentence("22: the same on the 8 turned and mirrored boards, asked of one object",
                () -> checkEightBoards(game -> game.value()));
        sentence("22: what was solved before does not count: many endings, asked of one object",
                () -> checkOfOneObject(game -> game.value()));
        sentence("22: throws IllegalStateException if the game is over, even with three or no cells empty",
                () -> refuseIfOver("value", game -> game.value()));
        sentence("22: throws IllegalStateException if more than 3 cells are empty: 4, 5 and more",
                () -> refuseIfTooManyEmpty("value", game -> game.value()));
        sentence("22: with four empty cells a marble leaves three: told then, and not without it",
                () -> checkFourAndThree(game -> game.value()));
        sentence("22: asking changes nothing",
                () -> checkEndingsUnchanged(game -> game.value()));
    }

    private static void valueOnBoards() {
        sentence("23: three cells are empty: 1, 0 and -1",
                () -> checkValues(THREE_EMPTY, game -> game.valueOnBoards()));
        sentence("23: two and one cell are empty: 1, 0 and -1", () -> {
            checkValues(TWO_EMPTY, game -> game.valueOnBoards());
            checkValues(ONE_EMPTY, game -> game.valueOnBoards());
        });
        sentence("23: .. for the side that is to turn, with three to none empty: 1, 0 and -1", () -> {
            checkValues(THREE_EMPTY_TO_TURN, game -> game.valueOnBoards());
            checkValues(TWO_EMPTY_TO_TURN, game -> game.valueOnBoards());
            checkValues(ONE_EMPTY_TO_TURN, game -> game.valueOnBoards());
            checkValues(NONE_EMPTY_TO_TURN, game -> game.valueOnBoards());
        });
        sentence("23: a marble that wins by itself, though no turn behind it would, is a win",
                () -> checkMarbleWins(game -> game.valueOnBoards()));
        sentence("23: the same on the 8 turned and mirrored boards, asked of one object",
                () -> checkEightBoards(game -> game.valueOnBoards()));
        sentence("23: what was solved before does not count: many endings, asked of one object",
                () -> checkOfOneObject(game -> game.valueOnBoards()));
        sentence("23: throws IllegalStateException if the game is over, even with three or no cells empty",
                () -> refuseIfOver("valueOnBoards", game -> game.valueOnBoards()));
        sentence("23: throws IllegalStateException if more than 3 cells are empty: 4, 5 and more",
                () -> refuseIfTooManyEmpty("valueOnBoards", game -> game.valueOnBoards()));
        sentence("23: with four empty cells a marble leaves three: told then, and not without it",
                () -> checkFourAndThree(game -> game.valueOnBoards()));
        sentence("23: asking changes nothing",
                () -> checkEndingsUnchanged(game -> game.valueOnBoards()));
    }

    private static void bestMove() {
        sentence("24: the move of a marble, 8 * cell + 2 * quarter + way, with three to one cells empty", () -> {
            checkBest(THREE_EMPTY);
            checkBest(TWO_EMPTY);
            checkBest(ONE_EMPTY);
        });
        sentence("24: the turn alone, 2 * quarter + way, if a quarter has to be turned", () -> {
            checkBest(THREE_EMPTY_TO_TURN);
            checkBest(TWO_EMPTY_TO_TURN);
            checkBest(ONE_EMPTY_TO_TURN);
            checkBest(NONE_EMPTY_TO_TURN);
        });
        sentence("24: the least number there is: 0", () -> checkBest(BEST_IS_0));
        sentence("24: the greatest number there is: 287", () -> checkBest(BEST_IS_287));
        sentence("24: the greatest number of a turn alone: 7", () -> checkBest(BEST_TURN_IS_7));
        sentence("24: a lower cell that wins by a turn comes before a higher one that wins by its marble",
                () -> checkBest(LOWER_CELL_BY_TURN));
        sentence("24: a lower cell that wins by its marble comes before a higher one that wins by a turn",
                () -> checkBest(LOWER_CELL_BY_MARBLE));
        sentence("24: a lower cell that gets less than the value is passed over",
                () -> checkBest(LOWER_CELL_IS_WORSE));
        sentence("24: if the game is over by the marble, the lowest of its eight numbers: 8 * cell", () -> {
            for (int index = 0; index < MARBLE_WINS.length; index++) {
                check("bestMove of " + MARBLE_WINS[index],
                        Position.laid(MARBLE_WINS[index]).bestMove(), 8 * MARBLE_WINS_ON[index]);
            }
        });
        sentence("24: if all moves lose, the lowest of all", () -> {
            for (Ending ending : allEndings()) {
                if (ending.value() == -1) {
                    Twistquad game = ending.position().game();
                    check("bestMove of " + ending, game.bestMove(),
                            game.mustTurn() ? 0 : 8 * firstEmpty(game));
                }
            }
        });
        sentence("24: the lowest of those that get the value: each move below it, played, gets less", () -> {
            for (Ending ending : allEndings()) {
                checkLowest(ending);
            }
        });
        sentence("24: .. whatever was solved before by the same object", () -> {
            Twistquad game = new Twistquad();
            for (Ending ending : allEndings()) {
                layAgain(game, ending.position());
                check("value of " + ending, game.value(), ending.value());
                check("bestMove of " + ending, game.bestMove(), ending.best());
                check("value of " + ending + ", again", game.value(), ending.value());
            }
        });
        sentence("24: throws IllegalStateException if the game is over, even with three or no cells empty",
                () -> refuseIfOver("bestMove", game -> game.bestMove()));
        sentence("24: throws IllegalStateException if more than 3 cells are empty: 4, 5 and more",
                () -> refuseIfTooManyEmpty("bestMove", game -> game.bestMove()));
        sentence("24: with four empty cells a marble leaves three: told then, and not without it",
                TwistquadEndingsEdgesTest::checkBestOfFourAndThree);
        sentence("24: asking changes nothing",
                () -> checkEndingsUnchanged(game -> game.bestMove()));
    }

    // ---- winning cells and turns

    private static List<Position> endingsAndToPut() {
        List<Position> positions = new ArrayList<>(List.of(Position.TO_PUT));
        for (Ending ending : allEndings()) {
            if (ending.position().moves().isEmpty()) {
                positions.add(ending.position());
            }
        }
        return positions;
    }

    private static void checkWinningCells(String picture, int due) {
        check("winningCells of " + picture, Position.laid(picture).winningCells(), due);
    }

    private static void checkWinningTurns(String picture, int cell, int due) {
        check("winningTurns(" + cell + ") of " + picture,
                Position.laid(picture).winningTurns(cell), due);
    }

    /** How many of the turns of the marble's board give its side a line, and the other one none. */
    private static int turnsThatWin(String picture, int cell) {
        Twistquad game = Position.laid(picture);
        int side = game.mover();
        long own = Position.sum(game, side) | 1L << cell;
        long other = Position.sum(game, 3 - side);
        int count = 0;
        for (int turn = 0; turn < 8; turn++) {
            long ownTurned = Geometry.behindTurn(own, turn / 2, turn % 2);
            long otherTurned = Geometry.behindTurn(other, turn / 2, turn % 2);
            count += Geometry.places(ownTurned, 5, 0, 0) > 0
                    && Geometry.places(otherTurned, 5, 0, 0) == 0 ? 1 : 0;
        }
        return count;
    }

    /** Whichever of the side's marbles on the picture was the last one put. */
    private static void checkEachTurnWins(String behindTheMarble, int side) {
        String cells = behindTheMarble.replace(" ", "");
        for (int cell = 0; cell < 36; cell++) {
            if (cells.charAt(cell) == '0' + side) {
                int index = cell + cell / 6;
                String before = behindTheMarble.substring(0, index) + '.'
                        + behindTheMarble.substring(index + 1);
                checkWinningTurns(before, cell, 8);
                check("put(" + cell + ") on " + before, Position.laid(before).put(cell), 0);
            }
        }
    }

    private static void compareWinningTurns(Position position) {
        Twistquad asked = position.game();
        for (int cell = 0; cell < 36; cell++) {
            if (asked.at(cell) == 0) {
                Twistquad played = position.game();
                int side = played.mover();
                int due = played.put(cell) == side ? 8 : 0;
                for (int turn = 0; turn < 8 && played.mustTurn(); turn++) {
                    due += played.turn(turn / 2, turn % 2) == side ? 1 : 0;
                    played.undo();
                }
                check("winningTurns(" + cell + ") of " + position, asked.winningTurns(cell), due);
            }
        }
    }

    private static void refuseNoCells(Position position) {
        for (int cell : NO_CELLS) {
            refuseCell(BOUNDS, position, cell);
        }
    }

    private static void refuseEachCell(Position position) {
        for (int cell = 0; cell < 36; cell++) {
            refuseCell(STATE, position, cell);
        }
    }

    private static void refuseCell(Class<?> due, Position position, int cell) {
        checkRefused(due, position, "winningTurns(" + cell + ")", game -> game.winningTurns(cell));
    }

    private static void checkUnchanged(Position position, Call question) {
        Twistquad game = position.game();
        long answer = question.on(game);
        check("asked again, in " + position, question.on(game), answer);
        checkSame("behind the question in " + position,
                Position.answers(game), Position.answers(position.game()));
        Twistquad other = position.game();
        question.on(other);
        checkSame("on and back behind the question in " + position,
                Position.onAndBack(other), Position.onAndBack(position.game()));
    }

    // ---- endings

    private static List<Ending> allEndings() {
        List<Ending> all = new ArrayList<>();
        Ending[][] groups = {
            THREE_EMPTY, TWO_EMPTY, ONE_EMPTY,
            THREE_EMPTY_TO_TURN, TWO_EMPTY_TO_TURN, ONE_EMPTY_TO_TURN, NONE_EMPTY_TO_TURN,
            BEST_IS_0, BEST_IS_287, BEST_TURN_IS_7,
            LOWER_CELL_BY_TURN, LOWER_CELL_BY_MARBLE, LOWER_CELL_IS_WORSE,
        };
        for (Ending[] group : groups) {
            all.addAll(List.of(group));
        }
        return all;
    }

    private static void checkValues(Ending[] endings, Call valueCall) {
        for (Ending ending : endings) {
            check("value of " + ending, valueCall.on(ending.position().game()), ending.value());
        }
    }

    private static void checkMarbleWins(Call valueCall) {
        for (String picture : MARBLE_WINS) {
            check("value of " + picture, valueCall.on(Position.laid(picture)), 1);
        }
    }

    private static void checkEightBoards(Call valueCall) {
        for (Ending ending : allEndings()) {
            if (ending.position().moves().isEmpty()) {
                long first = Position.sum(ending.position().picture(), 1);
                long second = Position.sum(ending.position().picture(), 2);
                Twistquad game = new Twistquad();
                for (int view = 7; view >= 0; view--) {
                    game.lay(Geometry.seen(first, view), Geometry.seen(second, view));
                    check("value of the view " + view + " of " + ending,
                            valueCall.on(game), ending.value());
                }
            }
        }
    }

    private static void checkOfOneObject(Call valueCall) {
        List<Ending> endings = allEndings();
        Twistquad game = new Twistquad();
        for (Ending ending : endings) {
            layAgain(game, ending.position());
            check("value of " + ending, valueCall.on(game), ending.value());
        }
        for (int index = endings.size() - 1; index >= 0; index--) {
            Ending ending = endings.get(index);
            layAgain(game, ending.position());
            check("value of " + ending + ", again", valueCall.on(game), ending.value());
        }
    }

    private static void layAgain(Twistquad game, Position position) {
        game.lay(Position.sum(position.picture(), 1), Position.sum(position.picture(), 2));
        Position.play(game, position.moves());
    }

    private static void refuseIfOver(String name, Call call) {
        for (Position position : Position.OVER) {
            checkRefused(STATE, position, name, call);
        }
        // A marble that wins, and leaves three, two, one and no cells empty.
        checkRefused(STATE, new Position("112211 211211 2222.1 2.121. 221112 1222.1", "e3"), name, call);
        checkRefused(STATE, new Position("112221 11112. 221221 1122.2 221.21 112211", "e4"), name, call);
        checkRefused(STATE, new Position("222211 21112. 2.1111 122212 121112 222112", "b3"), name, call);
        checkRefused(STATE, new Position("122112 112222 122.21 211211 212211 111221", "d3"), name, call);
    }

    private static void refuseIfTooManyEmpty(String name, Call call) {
        for (Position position : Position.all()) {
            Twistquad game = position.game();
            if (game.mover() != 0 && game.marbles() < 33) {
                checkRefused(STATE, position, name, call);
            }
        }
        for (String picture : FOUR_EMPTY) {
            checkRefused(STATE, new Position(picture, ""), name, call);
        }
        for (String picture : FIVE_EMPTY) {
            checkRefused(STATE, new Position(picture, ""), name, call);
            Twistquad game = Position.laid(picture);
            int cell = firstEmpty(game);
            check("put(" + cell + ") on " + picture, game.put(cell), 0);
            String marble = "" + "abcdef".charAt(cell % 6) + "123456".charAt(cell / 6);
            checkRefused(STATE, new Position(picture, marble), name, call);
        }
    }

    private static void checkFourAndThree(Call valueCall) {
        for (String picture : FOUR_EMPTY) {
            Twistquad game = Position.laid(picture);
            checkThrows("four empty, " + picture, STATE, () -> valueCall.on(game));
            int cell = firstEmpty(game);
            check("put(" + cell + ") on " + picture, game.put(cell), 0);
            check("three empty and a turn due, " + picture, valueCall.on(game), bestOutcome(game));
            game.undo();
            checkThrows("four empty again, " + picture, STATE, () -> valueCall.on(game));
        }
    }

    private static void checkBestOfFourAndThree() {
        for (String picture : FOUR_EMPTY) {
            Twistquad game = Position.laid(picture);
            checkThrows("four empty, " + picture, STATE, game::bestMove);
            game.put(firstEmpty(game));
            int best = game.bestMove();
            checkThat("a turn alone: " + best, best >= 0 && best < 8);
            check("its outcome, " + picture, outcome(game, best), bestOutcome(game));
            game.undo();
            checkThrows("four empty again, " + picture, STATE, game::bestMove);
        }
    }

    private static void checkEndingsUnchanged(Call question) {
        for (Ending ending : allEndings()) {
            checkUnchanged(ending.position(), question);
        }
        // With a record of their own: 33 to 35 moves, and one more whose turn is due.
        for (int moves = 33; moves < 36; moves++) {
            checkUnchanged(new Position(null, Position.WHOLE_GAME.substring(0, 5 * moves - 1)), question);
            checkUnchanged(new Position(null, Position.WHOLE_GAME.substring(0, 5 * moves + 2)), question);
        }
    }

    private static void checkBest(Ending[] endings) {
        for (Ending ending : endings) {
            check("bestMove of " + ending, ending.position().game().bestMove(), ending.best());
        }
    }

    private static void checkLowest(Ending ending) {
        Twistquad game = ending.position().game();
        String cells = Position.picture(game).replace(" ", "");
        boolean turnAlone = game.mustTurn();
        int best = game.bestMove();
        for (int move = 0; move <= best; move++) {
            if (turnAlone || cells.charAt(move / 8) == '.') {
                Twistquad played = ending.position().game();
                long got = outcome(played, move);
                if (move == best) {
                    check("the best move of " + ending, got, ending.value());
                } else {
                    checkThat("the move " + move + " gets less in " + ending, got < ending.value());
                }
            }
        }
    }

    /** The best outcome of the eight turns of a game in which a turn is due. */
    private static long bestOutcome(Twistquad game) {
        long best = -1;
        for (int turn = 0; turn < 8; turn++) {
            best = Math.max(best, outcome(game, turn));
        }
        return best;
    }

    /** What a move gets for the side that is to put or turn; the game is taken back behind it. */
    private static long outcome(Twistquad game, int move) {
        int side = game.mover();
        boolean turnAlone = game.mustTurn();
        int result = turnAlone ? 0 : game.put(move / 8);
        boolean turned = game.mustTurn();
        if (turned) {
            result = game.turn(move % 8 / 2, move % 2);
        }
        long outcome = result == 0 ? -game.valueOnBoards() : result == 3 ? 0 : result == side ? 1 : -1;
        if (turned) {
            game.undo();
        }
        if (!turnAlone) {
            game.undo();
        }
        return outcome;
    }

    private static int firstEmpty(Twistquad game) {
        int cell = 0;
        while (cell < 35 && game.at(cell) != 0) {
            cell++;
        }
        return cell;
    }
}
