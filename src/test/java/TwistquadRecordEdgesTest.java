/** The sentences of the document that name an edge of the record: the promises 12 to 14. */
public final class TwistquadRecordEdgesTest extends Checks {
    public static void main(String[] args) {
        moves();
        textLength();
        textAt();
        end("TwistquadRecordEdgesTest");
    }

    private static void moves() {
        sentence("12: no moves since the game was begun", () -> {
            check("new", new Twistquad().moves(), 0);
            check("all undone", new Position(null, "a10R - -").game().moves(), 0);
        });
        sentence("12: no moves since the game was laid, whatever went before", () -> {
            for (Position position : Position.all()) {
                Twistquad game = position.game();
                check("moves of " + position, game.moves(), movesIn(position));
                game.lay(Position.sum(Position.FULL, 1), Position.sum(Position.FULL, 2));
                check("moves behind lay, in " + position, game.moves(), 0);
            }
        });
        sentence("12: a marble without its turn is a move, too", () -> {
            check("one", new Position(null, "a1").game().moves(), 1);
            check("two", new Position(null, "a10R f6").game().moves(), 2);
            check("the last of 36", whole("-").moves(), 36);
            check("a marble that won", new Position("1111.. ...... ...... ...... ...... 2222..", "e1")
                    .game().moves(), 1);
        });
        sentence("12: a turn is no move of its own", () -> {
            check("one", new Position(null, "a10R").game().moves(), 1);
            check("two", new Position(null, "a10R f63L").game().moves(), 2);
            check("36", whole("").moves(), 36);
        });
    }

    private static void textLength() {
        sentence("13: 2 without a turn, 4 with one", () -> {
            check("a marble", new Position(null, "a1").game().textLength(0), 2);
            check("with its turn", new Position(null, "a10R").game().textLength(0), 4);
            check("its turn taken back", new Position(null, "a10R -").game().textLength(0), 2);
            Twistquad two = new Position(null, "a10R f6").game();
            check("the first of two", two.textLength(0), 4);
            check("the second", two.textLength(1), 2);
        });
        sentence("13: a marble that ended the game has no turn behind it: 2",
                () -> check("e1", new Position("1111.. ...... ...... ...... ...... 2222..", "e1")
                        .game().textLength(0), 2));
        sentence("13: the first and the last move of a whole game, with its turn and without", () -> {
            check("the first", whole("").textLength(0), 4);
            check("the last", whole("").textLength(35), 4);
            check("the last, without", whole("-").textLength(35), 2);
            check("the one before", whole("-").textLength(34), 4);
        });
        sentence("13: throws IndexOutOfBoundsException if there is no such move", () -> {
            for (Position position : Position.all()) {
                for (int move : beyond(0, movesIn(position) - 1)) {
                    checkRefused(BOUNDS, position, "textLength(" + move + ")",
                            game -> game.textLength(move));
                }
            }
        });
        sentence("13: .. and where there is none at all, not even the move 0", () -> {
            checkRefused(BOUNDS, new Position(null, ""), "textLength(0)", game -> game.textLength(0));
            checkRefused(BOUNDS, new Position(null, "a1 -"), "textLength(0)",
                    game -> game.textLength(0));
            checkRefused(BOUNDS, new Position(Position.FULL, ""), "textLength(0)",
                    game -> game.textLength(0));
        });
        sentence("13: .. a move that was taken back, or was before the game was laid, is none", () -> {
            checkRefused(BOUNDS, new Position(null, "a10R f6 -"), "textLength(1)",
                    game -> game.textLength(1));
            Twistquad relaid = new Position(null, "a10R f6").game();
            relaid.lay(0, 0);
            checkThrows("textLength(0) behind lay", BOUNDS, () -> relaid.textLength(0));
            checkThrows("textLength(1) behind lay", BOUNDS, () -> relaid.textLength(1));
            relaid.put(35);
            check("textLength(0)", relaid.textLength(0), 2);
            checkThrows("textLength(1) behind a marble", BOUNDS, () -> relaid.textLength(1));
        });
    }

    private static void textAt() {
        sentence("14: the letter of the column, from a to f, and the digit of the row, from 1 to 6", () -> {
            for (int cell = 0; cell < 36; cell++) {
                Twistquad game = new Twistquad();
                game.put(cell);
                check("the letter of " + cell, game.textAt(0, 0), "abcdef".charAt(cell % 6));
                check("the digit of " + cell, game.textAt(0, 1), "123456".charAt(cell / 6));
            }
        });
        sentence("14: the digit of the quarter, and R for the way 0, or L for the way 1", () -> {
            for (int turn = 0; turn < 8; turn++) {
                Twistquad game = new Twistquad();
                game.put(0);
                game.turn(turn / 2, turn % 2);
                check("the quarter of " + turn, game.textAt(0, 2), "0123".charAt(turn / 2));
                check("the way of " + turn, game.textAt(0, 3), "RL".charAt(turn % 2));
            }
        });
        sentence("14: as the board was then: what turns it later does not change the text", () -> {
            checkText("by its own turn", Position.record(new Position(null, "a10R").game()), "a10R");
            checkText("by a later one", Position.record(new Position(null, "a10R f60L").game()),
                    "a10R f60L");
            checkText("the same cell again", Position.record(new Position(null, "a10R a10R a10R")
                    .game()), "a10R a10R a10R");
        });
        sentence("14: every character of a whole game, from the first to the last", () -> {
            checkText("the record", Position.record(whole("")), Position.WHOLE_GAME);
            check("the first", whole("").textAt(0, 0), 'c');
            check("the last", whole("").textAt(35, 3), 'L');
            checkText("without the last turn", Position.record(whole("-")),
                    Position.WHOLE_GAME.substring(0, Position.WHOLE_GAME.length() - 2));
            checkText("without the last move", Position.record(whole("- -")),
                    Position.WHOLE_GAME.substring(0, Position.WHOLE_GAME.length() - 5));
        });
        sentence("14: throws IndexOutOfBoundsException if there is no such move", () -> {
            for (Position position : Position.all()) {
                for (int move : beyond(0, movesIn(position) - 1)) {
                    checkRefused(BOUNDS, position, "textAt(" + move + ", 0)",
                            game -> game.textAt(move, 0));
                    checkRefused(BOUNDS, position, "textAt(" + move + ", -1)",
                            game -> game.textAt(move, -1));
                }
            }
        });
        sentence("14: throws IndexOutOfBoundsException if there is no such character", () -> {
            for (Position position : Position.all()) {
                int moves = movesIn(position);
                for (int move = 0; move < moves; move++) {
                    if (move == 0 || move == moves - 1) {
                        refuseIndices(position, move);
                    }
                }
            }
        });
        sentence("14: .. of a marble without its turn the last one is 1, otherwise 3", () -> {
            Position marble = new Position(null, "a10R f6");
            check("textAt(1, 1)", marble.game().textAt(1, 1), '6');
            checkRefused(BOUNDS, marble, "textAt(1, 2)", game -> game.textAt(1, 2));
            checkRefused(BOUNDS, marble, "textAt(1, 3)", game -> game.textAt(1, 3));
            Position turn = new Position(null, "a10R f63L");
            check("textAt(1, 3)", turn.game().textAt(1, 3), 'L');
            checkRefused(BOUNDS, turn, "textAt(1, 4)", game -> game.textAt(1, 4));
            Position undone = new Position(null, "a10R f63L -");
            check("textAt(1, 1)", undone.game().textAt(1, 1), '6');
            checkRefused(BOUNDS, undone, "textAt(1, 2)", game -> game.textAt(1, 2));
            Position won = new Position("1111.. ...... ...... ...... ...... 2222..", "e1");
            check("textAt(0, 1)", won.game().textAt(0, 1), '1');
            checkRefused(BOUNDS, won, "textAt(0, 2)", game -> game.textAt(0, 2));
        });
    }

    private static Twistquad whole(String undone) {
        return new Position(null, Position.WHOLE_GAME + " " + undone).game();
    }

    /** How many moves a position's calls leave: a - takes a turn back, or, where there is none, a marble. */
    private static int movesIn(Position position) {
        int marbles = 0;
        boolean turned = false;
        for (String move : position.moves().split(" ")) {
            if (!move.equals("-")) {
                marbles += move.isEmpty() ? 0 : 1;
                turned = move.length() == 4;
            } else if (turned) {
                turned = false;
            } else {
                marbles--;
                turned = true;
            }
        }
        return marbles;
    }

    private static void refuseIndices(Position position, int move) {
        int length = position.game().textLength(move);
        check("length of the move " + move + " of " + position, length == 2 || length == 4 ? 1 : 0, 1);
        for (int index : beyond(0, length - 1)) {
            checkRefused(BOUNDS, position, "textAt(" + move + ", " + index + ")",
                    game -> game.textAt(move, index));
        }
    }
}
