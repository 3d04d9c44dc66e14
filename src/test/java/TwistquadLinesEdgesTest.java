/** The sentences of the document that name an edge of lines and forms: the promises 15 to 19. */
public final class TwistquadLinesEdgesTest extends Checks {
    private static final int[] NO_SIDES = beyond(1, 2);
    private static final int[] NO_QUARTERS = beyond(0, 3);
    private static final int[] NO_WAYS = beyond(0, 1);
    private static final String EMPTY = "...... ...... ...... ...... ...... ......";

    // Four lines of the side 1 cross in the cell c3; the side 2 has none.
    private static final String CROSSING = "121212 211122 11111. 211122 121212 22.222";

    public static void main(String[] args) {
        lines();
        fours();
        foursBehind();
        form();
        symmetries();
        end("TwistquadLinesEdgesTest");
    }

    private static void lines() {
        sentence("15: a board without a line: the empty one, four in a row, a full one", () -> {
            checkLines(EMPTY, 0, 0);
            checkLines("1111.. ...... ...... ...... ...... 2222..", 0, 0);
            checkLines("1111.1 ...... ...... ...... ...... 22.222", 0, 0);
            checkLines(Position.FULL, 0, 0);
            checkLines(Position.ONE_EMPTY, 0, 0);
        });
        sentence("15: one line, at each of the 32 places, for either side", () -> {
            for (int[] place : Geometry.places()) {
                long line = bits(place);
                long rest = Geometry.spread(line, 5);
                Twistquad game = new Twistquad();
                check("result", game.lay(line, rest), 1);
                check("the side 1", game.lines(1), 1);
                check("the side 2", game.lines(2), 0);
                check("result", game.lay(rest, line), 2);
                check("the side 1, swapped", game.lines(1), 0);
                check("the side 2, swapped", game.lines(2), 1);
            }
        });
        sentence("15: several lines: six in a row are two, and lines that cross are as many", () -> {
            checkLines("111111 ...... ...... ...... ...... 22.222", 2, 0);
            checkLines("22.222 ...1.. ...1.. ...1.. ...1.. ...1..", 1, 0);
            checkLines("22.222 ...... ...... ...... ...... 111111", 2, 0);
            checkLines("22222. ...1.. ...1.. ...1.. ...1.. ...1..", 1, 1);
            checkLines("11111. 1.2222 1..... 1.222. 1..... 2.2...", 2, 0);
            checkLines("1....2 .1..2. ..12.. ..21.. .2..1. 2....1", 2, 2);
            checkLines(CROSSING, 4, 0);
            checkLines(swapped(CROSSING), 0, 4);
        });
        sentence("15: lines of both sides at once", () -> {
            checkLines("11111. ...... ...... ...... ...... 22222.", 1, 1);
            checkLines("111111 222222 ...... ...... ...... ......", 2, 2);
            checkLines("111111 111111 111111 222222 222222 222222", 6, 6);
        });
        sentence("15: a full board with lines of the one, the other, and both", () -> {
            checkLines("112112 221212 222111 211112 221212 121212", 2, 0);
            checkLines("111121 222212 112122 122112 211122 121221", 0, 1);
            checkLines("122222 111221 121122 122211 121221 211112", 1, 1);
        });
        sentence("15: five of both sides, or round an edge, are no line", () -> {
            for (int[] place : Geometry.places()) {
                for (int other : place) {
                    long own = bits(place) & ~(1L << other);
                    long others = 1L << other | Geometry.spread(bits(place), 3);
                    Twistquad game = new Twistquad();
                    game.lay(own, others);
                    check("the side 1 beside " + other, game.lines(1), 0);
                    check("the side 2 on " + other, game.lines(2), 0);
                }
            }
            for (int[] run : Geometry.roundAnEdge()) {
                long rest = Geometry.spread(bits(run), 5);
                Twistquad game = new Twistquad();
                check("result", game.lay(bits(run), rest), 0);
                check("round an edge from " + run[0], game.lines(1), 0);
                game.lay(rest, bits(run));
                check("round an edge from " + run[0] + ", the side 2", game.lines(2), 0);
            }
        });
        sentence("15: throws IndexOutOfBoundsException if there is no such side", () -> {
            for (Position position : Position.all()) {
                for (int side : NO_SIDES) {
                    checkRefused(BOUNDS, position, "lines(" + side + ")", game -> game.lines(side));
                }
            }
        });
    }

    private static void fours() {
        sentence("16: no four: the empty board, a full one, three in a row", () -> {
            checkFours(EMPTY, 0, 0);
            checkFours(Position.FULL, 0, 0);
            checkFours("112112 221212 222111 211112 221212 121212", 0, 0);
            checkFours("111... ...... ...... ...... ...... 222...", 0, 0);
        });
        sentence("16: one four, with the empty cell at each of its five cells, at each of 32 places", () -> {
            for (int[] place : Geometry.places()) {
                for (int gap : place) {
                    long own = bits(place) & ~(1L << gap);
                    long rest = Geometry.spread(bits(place), 4);
                    checkFours(own, rest);
                    checkFours(rest, own);
                    Twistquad game = new Twistquad();
                    game.lay(own, rest);
                    checkThat("a four without " + gap, game.fours(1) > 0);
                    game.lay(rest, own);
                    checkThat("a four of the side 2 without " + gap, game.fours(2) > 0);
                }
            }
        });
        sentence("16: the fifth cell is empty: it has no marble of the other side", () -> {
            checkFours("11112. ...... ...... ...... ...... 2222.1", 0, 1);
            checkFours("21111. ...... ...... ...... ...... 222.1.", 1, 0);
            checkFours("211112 ...... ...... ...... ...... 2.2...", 0, 0);
            for (int[] place : Geometry.places()) {
                for (int gap : place) {
                    long own = bits(place) & ~(1L << gap);
                    checkFours(own, 1L << gap | Geometry.spread(bits(place), 3));
                }
            }
        });
        sentence("16: the fifth cell is empty: a line is no four, six are none", () -> {
            checkFours("11111. ...... ...... ...... ...... 2222.2", 1, 2);
            checkFours("111111 ...... ...... ...... ...... 22.222", 0, 2);
            checkFours("211111 ...... ...... ...... ...... 22.22.", 0, 1);
        });
        sentence("16: several: four in the middle of six are two, one gap can serve two", () -> {
            checkFours(".1111. ...... ...... ...... ...... 2222..", 2, 1);
            checkFours("1.1111 ...... ...... ...... ...... 222.22", 2, 2);
            checkFours(".1111. 1..2.2 1.2..2 1..2.. 1.2... 2.2...", 3, 0);
            checkFours(".1111. 2222.. ...... ...... ...... ......", 2, 1);
            checkFours("1..... .1.... ..1... ...1.. ...... 2222..", 1, 1);
            checkFours("...... .1.... ..1... ...1.. ....1. .2222.", 2, 2);
            checkFours("...... ....1. ...1.. ..1... .1.... .2222.", 2, 2);
        });
        sentence("16: beyond an edge there is no cell: no four goes round it", () -> {
            for (int[] run : Geometry.roundAnEdge()) {
                for (int gap : run) {
                    long own = bits(run) & ~(1L << gap);
                    checkFours(own, Geometry.spread(bits(run), 4));
                    checkFours(Geometry.spread(bits(run), 4), own);
                }
            }
            checkFours("..111. 1..... ...... ...... ...222 .2....", 0, 0);
        });
        sentence("16: throws IndexOutOfBoundsException if there is no such side", () -> {
            for (Position position : Position.all()) {
                for (int side : NO_SIDES) {
                    checkRefused(BOUNDS, position, "fours(" + side + ")", game -> game.fours(side));
                }
            }
        });
    }

    private static void foursBehind() {
        sentence("17: the same if a quarter was turned now, for side 1 or 2, quarter 0 to 3, way 0 or 1", () -> {
            Twistquad game = Position.laid("...11. 1..... 1..... ..2.2. ...... ...2.2");
            game.put(0);
            check("the side 1 wins by it: no four is left", game.foursBehind(1, 0, 0), 1);
            check("the other way", game.foursBehind(1, 0, 1), 0);
            Twistquad corners = Position.laid(".1.11. 1.1... .1.... ....2. ...2.2 .22.2.");
            compareBehind(corners);
        });
        sentence("17: .. whoever is to move, and whether a quarter has to be turned or not", () -> {
            for (Position position : Position.all()) {
                Twistquad game = position.game();
                compareBehind(game);
                checkSame("foursBehind changed nothing in " + position,
                        Position.answers(game), Position.answers(position.game()));
            }
        });
        sentence("17: .. as fours tells it behind the turn itself", () -> {
            for (Position position : Position.TURN_DUE) {
                Twistquad game = position.game();
                for (int turn = 0; turn < 8; turn++) {
                    int first = game.foursBehind(1, turn / 2, turn % 2);
                    int second = game.foursBehind(2, turn / 2, turn % 2);
                    game.turn(turn / 2, turn % 2);
                    check("the side 1, " + turn + ", " + position, game.fours(1), first);
                    check("the side 2, " + turn + ", " + position, game.fours(2), second);
                    game.undo();
                }
            }
        });
        sentence("17: on the empty board and on a full one there are none", () -> {
            for (int turn = 0; turn < 8; turn++) {
                check("empty", new Twistquad().foursBehind(1, turn / 2, turn % 2), 0);
                check("full", Position.laid(Position.FULL).foursBehind(2, turn / 2, turn % 2), 0);
            }
        });
        sentence("17: throws IndexOutOfBoundsException if there is no such side", () -> {
            for (Position position : Position.all()) {
                for (int side : NO_SIDES) {
                    refuse(BOUNDS, position, side, 0, 0);
                    refuse(BOUNDS, position, side, 3, 1);
                }
            }
        });
        sentence("17: throws IndexOutOfBoundsException if there is no such quarter", () -> {
            for (Position position : Position.all()) {
                for (int quarter : NO_QUARTERS) {
                    refuse(BOUNDS, position, 1, quarter, 0);
                    refuse(BOUNDS, position, 2, quarter, 1);
                }
            }
        });
        sentence("17: throws IllegalArgumentException if way is out of range", () -> {
            for (Position position : Position.all()) {
                for (int way : NO_WAYS) {
                    refuse(ARGUMENT, position, 1, 0, way);
                    refuse(ARGUMENT, position, 2, 3, way);
                }
            }
        });
        sentence("17: if several apply, IndexOutOfBoundsException is named first", () -> {
            for (Position position : Position.all()) {
                refuse(BOUNDS, position, 0, 0, 2);
                refuse(BOUNDS, position, 3, 3, -1);
                refuse(BOUNDS, position, 1, 4, 2);
                refuse(BOUNDS, position, 2, -1, -1);
                refuse(BOUNDS, position, 0, 4, 2);
                refuse(BOUNDS, position, Integer.MIN_VALUE, Integer.MAX_VALUE, Integer.MAX_VALUE);
            }
        });
    }

    private static void form() {
        sentence("18: the form of the empty board is 0", () -> {
            check("new", new Twistquad().form(), 0);
            check("laid", Position.laid(EMPTY).form(), 0);
            check("undone", new Position(null, "f63L - -").game().form(), 0);
        });
        sentence("18: one marble: 3 to the power of the least cell where it can come to", () -> {
            long[] due = {
                1, 3, 9, 9, 3, 1,
                3, 2187, 6561, 6561, 2187, 3,
                9, 6561, 4782969, 4782969, 6561, 9,
                9, 6561, 4782969, 4782969, 6561, 9,
                3, 2187, 6561, 6561, 2187, 3,
                1, 3, 9, 9, 3, 1,
            };
            for (int cell = 0; cell < 36; cell++) {
                Twistquad game = new Twistquad();
                game.put(cell);
                check("form of " + cell, game.form(), due[cell]);
            }
        });
        sentence("18: 1 for a marble of the side 1, and 2 for one of the side 2", () -> {
            checkForm("12.... ...... ...... ...... ...... ......", 7);
            checkForm("2....1 ...... ...... ...... ...... ......", 245);
            checkForm("1....2 ...... ...... ...... ...... ......", 245);
            checkForm("...... ...... ..12.. ..21.. ...... ......", 17467402788L);
            checkForm("12.... ...... ...... ...... ...... ....21", 206455991522148L);
        });
        sentence("18: the form of a full board, above all that an int or a double tells apart", () -> {
            checkForm(Position.FULL, 82552049413349516L);
            checkForm("222222 211112 211112 211112 211112 212122", 131530495309783910L);
            checkForm("122222 211112 211112 211112 211112 222221", 100029152099302612L);
            checkForm("112112 221212 222111 211112 221212 121212", 80906736926841206L);
        });
        sentence("18: the 8 turned and mirrored boards have one form, the least of their codes", () -> {
            for (Position position : Position.all()) {
                Twistquad game = position.game();
                checkEightForms(Position.sum(game, 1), Position.sum(game, 2));
            }
            checkEightForms(Position.sum("1...12 .2.... 2....1 1....2 ...... 21...1", 1),
                    Position.sum("1...12 .2.... 2....1 1....2 ...... 21...1", 2));
        });
        sentence("18: the form is the board's: it matters not who is to move, and how it came there", () -> {
            check("a turn due", new Position(null, "c3").game().form(), 4782969);
            check("over", new Position("1111.. ...... ...... ...... ...... 2222..", "e1").game().form(),
                    Position.laid("11111. ...... ...... ...... ...... 2222..").form());
        });
    }

    private static void symmetries() {
        sentence("19: 8 of the empty board", () -> {
            check("new", new Twistquad().symmetries(), 8);
            check("laid", Position.laid(EMPTY).symmetries(), 8);
        });
        sentence("19: 1, if none but the board itself", () -> {
            checkSymmetries(".1.... ...... ...... ...... ...... ......", 1);
            checkSymmetries("...... ...... .1.... ..2.11 1..... ...2.2", 1);
            checkSymmetries(Position.ONE_EMPTY, 1);
        });
        sentence("19: 2: one mirror, or the half turn", () -> {
            checkSymmetries("1....1 ...... ...... .2..2. ...... ......", 2);
            checkSymmetries("1..... .1122. .2.1.2 .2.1.2 .1122. 1.....", 2);
            checkSymmetries("..1..2 ...... 1.2.12 .....1 ..1... 2.21..", 2);
            checkSymmetries(".....2 ...... ...... .1.... ..1... ......", 2);
            checkSymmetries("..2... 1..... ..1..2 2..1.. .....1 ...2..", 2);
        });
        sentence("19: 4: the turns alone, both straight mirrors, both slanting ones", () -> {
            checkSymmetries(".2.... .....2 ..11.. ..11.. 2..... ....2.", 4);
            checkSymmetries("...... 2....2 121121 121121 2....2 ......", 4);
            checkSymmetries(".2121. 2.1..1 1122.2 2.2211 1..1.2 .1212.", 4);
        });
        sentence("19: 8: all", () -> {
            checkSymmetries("1....1 ...... ..22.. ..22.. ...... 1....1", 8);
            checkSymmetries("121121 212212 12..21 12..21 212212 121121", 8);
        });
        sentence("19: a full board", () -> {
            checkSymmetries(Position.FULL, 2);
            checkSymmetries("122222 211112 211112 211112 211112 222221", 4);
            checkSymmetries("222222 211112 211112 211112 211112 212122", 1);
        });
        sentence("19: a marble of the other side is not the same", () -> {
            checkSymmetries("1....2 ...... ...... ...... ...... ......", 1);
            checkSymmetries("1..... ...... ...... ...... ...... .....2", 2);
            checkSymmetries("1....2 ...... ...... ...... ...... 2....1", 4);
        });
        sentence("19: as many in each of the 8 boards", () -> {
            for (Position position : Position.all()) {
                Twistquad game = position.game();
                long first = Position.sum(game, 1);
                long second = Position.sum(game, 2);
                int due = 0;
                for (int view = 0; view < 8; view++) {
                    due += Geometry.seen(first, view) == first
                            && Geometry.seen(second, view) == second ? 1 : 0;
                }
                check("symmetries of " + position, game.symmetries(), due);
            }
        });
    }

    // ---- helpers

    private static String swapped(String picture) {
        return picture.replace('1', 'x').replace('2', '1').replace('x', '2');
    }

    private static void checkLines(String picture, int first, int second) {
        Twistquad game = Position.laid(picture);
        check("lines of the side 1, " + picture, game.lines(1), first);
        check("lines of the side 2, " + picture, game.lines(2), second);
    }

    private static void checkFours(String picture, int first, int second) {
        Twistquad game = Position.laid(picture);
        check("fours of the side 1, " + picture, game.fours(1), first);
        check("fours of the side 2, " + picture, game.fours(2), second);
    }

    /** The fours of both, counted at each place by itself. */
    private static void checkFours(long first, long second) {
        Twistquad game = new Twistquad();
        game.lay(first, second);
        check("fours of " + first + " beside " + second, game.fours(1), foursOf(first, second));
        check("fours of " + second + " beside " + first, game.fours(2), foursOf(second, first));
    }

    private static int foursOf(long own, long other) {
        return Geometry.places(own, 4, other, 0);
    }

    private static void compareBehind(Twistquad game) {
        String picture = Position.picture(game);
        for (int turn = 0; turn < 8; turn++) {
            int quarter = turn / 2;
            int way = turn % 2;
            long first = Geometry.behindTurn(Position.sum(picture, 1), quarter, way);
            long second = Geometry.behindTurn(Position.sum(picture, 2), quarter, way);
            String what = "the turn " + turn + " of " + picture;
            check(what + ", the side 1", game.foursBehind(1, quarter, way), foursOf(first, second));
            check(what + ", the side 2", game.foursBehind(2, quarter, way), foursOf(second, first));
        }
    }

    private static void refuse(Class<?> due, Position position, int side, int quarter, int way) {
        checkRefused(due, position, "foursBehind(" + side + ", " + quarter + ", " + way + ")",
                game -> game.foursBehind(side, quarter, way));
    }

    private static void checkForm(String picture, long due) {
        check("form of " + picture, Position.laid(picture).form(), due);
    }

    private static void checkEightForms(long first, long second) {
        long due = Long.MAX_VALUE;
        for (int view = 0; view < 8; view++) {
            due = Math.min(due, Geometry.code(Geometry.seen(first, view), Geometry.seen(second, view)));
        }
        for (int view = 0; view < 8; view++) {
            int ahead = Long.bitCount(first) - Long.bitCount(second);
            Twistquad game = new Twistquad();
            game.lay(Geometry.seen(first, view), Geometry.seen(second, view));
            check("form of the view " + view + " of " + first + " and " + second
                    + " (" + ahead + " ahead)", game.form(), due);
        }
    }

    private static void checkSymmetries(String picture, int due) {
        Twistquad game = Position.laid(picture);
        check("symmetries of " + picture, game.symmetries(), due);
    }
}
