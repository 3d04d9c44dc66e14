import java.util.ArrayList;
import java.util.List;

/**
 * Where a game can come to: a picture of the board that is laid, row by row (null: a new game), and the
 * calls behind it, written as the texts of moves, with - for undo.
 */
record Position(String picture, String moves) {
    private static final String CHECKERED = "112211 221122 112211 221122 112211 ";

    /** A full board without a line. */
    static final String FULL = CHECKERED + "221122";

    // The cell a5 takes the last marble; what the turns behind it give, is told where they are used.
    static final String ONE_EMPTY = "211122 222112 111121 112221 .22121 211221";

    /** A whole game of 36 moves, none of which makes a line. */
    static final String WHOLE_GAME = "c32R a23R a52R d42R b43R d41R f10R d61L a50L e43R b22L b12R e40R "
            + "f30L a41L c43R d41L c22L c50R e51R d22R e22L a20R c31L f10L d31L c61L e32L d50R f22R "
            + "a30R d20L e41L b50R c30R c40L";

    static final Position[] OVER = {
        // by a marble
        new Position("1111.. ...... ...... ...... ...... 2222..", "e1"),
        new Position("1111.. ...... ...... ..1... ...... 2222..", "e6"),
        new Position("211211 222111 12.122 212211 222111 122211", "c3"),
        new Position("2112.1 21212. 1222.2 211112 112112 211122", "f2"),
        // by a turn: a line of the side that turns, of the other one, and of both
        new Position("...11. 1..... 1..... ..2.2. ...... ...2.2", "a10R"),
        new Position("...22. 2..... 2..... ..1.1. ....1. ...1.1", "a10R"),
        new Position("2..22. 2..... 2..... ..1.1. .....1 ...1.1", "a60R"),
        new Position("1..11. 1..... 1..... ..2.2. ...... ...2.2", "a60R"),
        new Position(".2.11. 12.22. 12.... ...... ...... .....1", "a10R"),
        new Position(".1.22. 21.11. 21.... ...... ...... ......", "a10R"),
        // by the turn behind the last marble: a line of either side, of both, and none
        new Position(ONE_EMPTY, "a53L"),
        new Position(ONE_EMPTY, "a51R"),
        new Position(ONE_EMPTY, "a53R"),
        new Position(ONE_EMPTY, "a52R"),
        new Position(null, WHOLE_GAME),
        // laid: lines of one side, and of both, then full boards, and one with three empty cells
        new Position("11111. ...... ...... ...... ...... 2222..", ""),
        new Position("22222. ...... ...... ...... ...... 1111.1", ""),
        new Position("111111 222222 ...... ...... ...... ......", ""),
        new Position("112112 221212 222111 211112 221212 121212", ""),
        new Position("111121 222212 112122 122112 211122 121221", ""),
        new Position("122222 111221 121122 122211 121221 211112", ""),
        new Position(FULL, ""),
        new Position("11111. 22122. 112211 221122 1.2211 221122", ""),
    };

    static final Position[] TURN_DUE = {
        new Position(null, "a1"),
        new Position(null, "c30R f6"),
        new Position(null, "c30R f63L -"),
        new Position("1111.. ...... ...... ...... ...... 2222..", "f1"),
        new Position("1111.. ...... ...... ...... ...... 2222..", "f10R e5"),
        new Position("1111.. ...... ...... ...... ...... 2222..", "e1 - f1"),
        new Position(".2.11. 12.22. 12.... ...... ...... .....1", "a10R -"),
        new Position("...22. 2..... 2..... ..1.1. ....1. ...1.1", "a1"),
        new Position(CHECKERED + "2.....", "b6"),
        new Position(CHECKERED + "22....", "c6"),
        new Position(CHECKERED + "221...", "d6"),
        new Position(CHECKERED + "221.2.", "d6"),
        new Position(CHECKERED + "22112.", "f6"),
        new Position(ONE_EMPTY, "a5"),
    };

    static final Position[] TO_PUT = {
        new Position(null, ""),
        new Position(null, "a1 -"),
        new Position(null, "c30R"),
        new Position(null, "c30R f63L"),
        new Position(null, "c30R f6 -"),
        new Position("...... ...... ...... ...... ...... ......", ""),
        new Position("...... ...... ...... ...... ...... .....1", ""),
        new Position("1111.. ...... ...... ...... ...... 2222..", ""),
        new Position("1111.. ...... ...... ...... ...... 2222..", "f10R"),
        new Position("1111.. ...... ...... ...... ...... 2222..", "e1 -"),
        new Position("...22. 2..... 2..... ..1.1. ....1. ...1.1", ""),
        new Position(".2.11. 12.22. 12.... ...... ...... .....1", "a10R - -"),
        new Position(CHECKERED + "2.....", ""),
        new Position(CHECKERED + "22....", ""),
        new Position(CHECKERED + "221...", ""),
        new Position(CHECKERED + "221.2.", ""),
        new Position(CHECKERED + "22112.", ""),
        new Position(ONE_EMPTY, ""),
    };

    static List<Position> all() {
        List<Position> all = new ArrayList<>();
        all.addAll(List.of(OVER));
        all.addAll(List.of(TURN_DUE));
        all.addAll(List.of(TO_PUT));
        return all;
    }

    Twistquad game() {
        Twistquad game = new Twistquad();
        if (picture != null) {
            game.lay(sum(picture, 1), sum(picture, 2));
        }
        play(game, moves);
        return game;
    }

    static Twistquad laid(String picture) {
        return new Position(picture, "").game();
    }

    @Override
    public String toString() {
        return "[" + (picture == null ? "new" : picture) + (moves.isEmpty() ? "" : ", " + moves) + "]";
    }

    // ---- pictures

    /** The sum of 2 to the power of the cells that a picture shows as the side's. */
    static long sum(String picture, int side) {
        String cells = picture.replace(" ", "");
        if (cells.length() != 36) {
            throw new RuntimeException("no picture of 36 cells: " + picture);
        }
        long sum = 0;
        for (int cell = 0; cell < 36; cell++) {
            sum |= cells.charAt(cell) == '0' + side ? 1L << cell : 0;
        }
        return sum;
    }

    static String picture(Twistquad game) {
        StringBuilder text = new StringBuilder();
        for (int cell = 0; cell < 36; cell++) {
            text.append(cell > 0 && cell % 6 == 0 ? " " : "").append(".12".charAt(game.at(cell)));
        }
        return text.toString();
    }

    /** The marbles of a side, as the game tells them. */
    static long sum(Twistquad game, int side) {
        return sum(picture(game), side);
    }

    // ---- calls

    static void play(Twistquad game, String moves) {
        for (String move : moves.split(" ")) {
            if (move.equals("-")) {
                game.undo();
            } else if (!move.isEmpty()) {
                game.put(cellOf(move));
                if (move.length() == 4) {
                    game.turn(move.charAt(2) - '0', move.charAt(3) == 'R' ? 0 : 1);
                }
            }
        }
    }

    static int cellOf(String move) {
        return 6 * (move.charAt(1) - '1') + move.charAt(0) - 'a';
    }

    static String textOf(Twistquad game, int move) {
        StringBuilder text = new StringBuilder();
        int length = game.textLength(move);
        for (int index = 0; index < length; index++) {
            text.append(game.textAt(move, index));
        }
        return text.toString();
    }

    /** The whole record, the texts with a space between them. */
    static String record(Twistquad game) {
        StringBuilder text = new StringBuilder();
        int moves = game.moves();
        for (int move = 0; move < moves; move++) {
            text.append(move > 0 ? " " : "").append(textOf(game, move));
        }
        return text.toString();
    }

    // ---- all that a game can be asked

    /** What each question of the face is answered, for each argument that it allows: 300 calls at most. */
    static List<String> answers(Twistquad game) {
        List<String> answers = new ArrayList<>();
        answers.add("the board " + picture(game));
        answers.add("the record " + record(game));
        answers.add("moves " + game.moves());
        answers.add("result " + game.result());
        answers.add("mover " + game.mover());
        answers.add("mustTurn " + game.mustTurn());
        answers.add("marbles " + game.marbles());
        answers.add("share " + game.share());
        for (int side = 1; side <= 2; side++) {
            answers.add("lines of " + side + ": " + game.lines(side));
            answers.add("fours of " + side + ": " + game.fours(side));
            for (int turn = 0; turn < 8; turn++) {
                answers.add("foursBehind of " + side + " and the turn " + turn + ": "
                        + game.foursBehind(side, turn / 2, turn % 2));
            }
        }
        answers.add("form " + game.form());
        answers.add("symmetries " + game.symmetries());
        answers.add("winningCells " + answer(game, each -> each.winningCells()));
        for (int cell = 0; cell < 36; cell++) {
            int fixed = cell;
            answers.add("winningTurns of " + cell + ": "
                    + answer(game, each -> each.winningTurns(fixed)));
        }
        answers.add("value " + answer(game, each -> each.value()));
        answers.add("valueOnBoards " + answer(game, each -> each.valueOnBoards()));
        answers.add("bestMove " + answer(game, each -> each.bestMove()));
        return answers;
    }

    /** One step on, where there is one, and then all steps back, with what each of them leaves. */
    static List<String> onAndBack(Twistquad game) {
        List<String> answers = new ArrayList<>();
        if (game.mustTurn()) {
            answers.add("turn(3, 1) " + answer(game, each -> each.turn(3, 1)));
        } else if (game.mover() != 0) {
            int empty = 35;
            while (empty > 0 && game.at(empty) != 0) {
                empty--;
            }
            int cell = empty;
            answers.add("put(" + cell + ") " + answer(game, each -> each.put(cell)));
        }
        int left = 73;
        String undone = "";
        while (left > 0 && !undone.startsWith("throws")) {
            left--;
            undone = answer(game, each -> each.undo() ? 1 : 0);
            answers.add("undo " + undone + ", then result " + game.result() + ", mover "
                    + game.mover() + ", mustTurn " + game.mustTurn());
        }
        answers.add("the board " + picture(game));
        return answers;
    }

    private static String answer(Twistquad game, Checks.Call call) {
        try {
            return "" + call.on(game);
        } catch (RuntimeException e) {
            return "throws " + e.getClass().getSimpleName();
        }
    }
}
