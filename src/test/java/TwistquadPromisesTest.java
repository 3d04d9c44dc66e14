import java.lang.reflect.Constructor;
import java.lang.reflect.Field;
import java.lang.reflect.Method;
import java.lang.reflect.Modifier;
import java.util.ArrayList;
import java.util.Arrays;
import java.util.HashSet;
import java.util.List;
import java.util.Set;
import java.util.TreeSet;

/**
 * Each promise of the document by examples: ordinary inputs, the edges, and wrong ones. The small
 * boards were worked out by hand; what is due on the crowded ones, given as sums of bits, was found by
 * a program of its own, written from the document in another language.
 */
public final class TwistquadPromisesTest extends Checks {
    public static void main(String[] args) {
        theFace();
        promise1NewObject();
        promise2Put();
        promise3Turn();
        promise3TurnResults();
        promise4Undo();
        promise5Lay();
        promise6Result();
        promise7Mover();
        promise8MustTurn();
        promise9At();
        promise10And11MarblesAndShare();
        promise12Moves();
        promise13And14Texts();
        promise15Lines();
        promise16Fours();
        promise17FoursBehind();
        promise18Form();
        promise19Symmetries();
        promise20WinningCells();
        promise21WinningTurns();
        promise22To24Endings();
        promise22To24Refusals();
        theRunOfTheReadme();
        objectsAreApart();
        callsMakeNoObjects();
        end("TwistquadPromisesTest");
    }

    // ---- helpers

    private static Twistquad laid(long first, long second) {
        Twistquad game = new Twistquad();
        game.lay(first, second);
        return game;
    }

    /** All cells of a game, with what else the plain calls tell: equal if nothing was changed. */
    private static String state(Twistquad game) {
        StringBuilder text = new StringBuilder();
        for (int cell = 0; cell < 36; cell++) {
            text.append(game.at(cell));
        }
        text.append(' ').append(game.result()).append(game.mover()).append(game.mustTurn());
        text.append(' ').append(Position.record(game));
        return text.toString();
    }

    /** 35 marbles, no line, the cell 35 empty, and the side 2 to move. */
    private static Twistquad nearlyFull() {
        return laid(bits(0, 1, 4, 5, 8, 9, 12, 13, 16, 17, 20, 21, 24, 25, 28, 29, 32, 33),
                bits(2, 3, 6, 7, 10, 11, 14, 15, 18, 19, 22, 23, 26, 27, 30, 31, 34));
    }

    // ---- the face

    private static void theFace() {
        Set<String> names = new TreeSet<>();
        List<String> face = new ArrayList<>();
        for (Method method : Twistquad.class.getDeclaredMethods()) {
            if (Modifier.isPrivate(method.getModifiers())) {
                names.add(method.getName());
            } else {
                face.add(method.toString());
            }
        }
        String[] due = {
            "public int Twistquad.put(int) throws B,S",
            "public int Twistquad.turn(int,int) throws B,A,S",
            "public boolean Twistquad.undo() throws S",
            "public int Twistquad.lay(long,long) throws A",
            "public int Twistquad.result()",
            "public int Twistquad.mover()",
            "public boolean Twistquad.mustTurn()",
            "public int Twistquad.at(int) throws B",
            "public int Twistquad.marbles()",
            "public float Twistquad.share()",
            "public int Twistquad.moves()",
            "public int Twistquad.textLength(int) throws B",
            "public char Twistquad.textAt(int,int) throws B",
            "public int Twistquad.lines(int) throws B",
            "public int Twistquad.fours(int) throws B",
            "public int Twistquad.foursBehind(int,int,int) throws B,A",
            "public long Twistquad.form()",
            "public int Twistquad.symmetries()",
            "public int Twistquad.winningCells() throws S",
            "public int Twistquad.winningTurns(int) throws B,S",
            "public int Twistquad.value() throws S",
            "public int Twistquad.valueOnBoards() throws S",
            "public int Twistquad.bestMove() throws S",
        };
        Set<String> written = new HashSet<>();
        for (String method : face) {
            written.add(method.replace("java.lang.IndexOutOfBoundsException", "B")
                    .replace("java.lang.IllegalArgumentException", "A")
                    .replace("java.lang.IllegalStateException", "S"));
        }
        checkText("the methods of the face", new TreeSet<>(written).toString(),
                new TreeSet<>(Arrays.asList(due)).toString());
        for (Method method : Twistquad.class.getDeclaredMethods()) {
            if (!Modifier.isPrivate(method.getModifiers())) {
                checkThat("no private method named " + method.getName(),
                        !names.contains(method.getName()));
            }
        }
        int constants = 0;
        for (Field field : Twistquad.class.getDeclaredFields()) {
            if (!Modifier.isPrivate(field.getModifiers())) {
                constants++;
            }
            if (Modifier.isStatic(field.getModifiers())) {
                checkThat(field.getName() + " is final", Modifier.isFinal(field.getModifiers()));
            }
        }
        check("visible fields", constants, 4);
        Constructor<?>[] constructors = Twistquad.class.getDeclaredConstructors();
        check("constructors", constructors.length, 1);
        checkThat("the constructor is public", Modifier.isPublic(constructors[0].getModifiers()));
        checkThat("the class is public and final",
                Modifier.isPublic(Twistquad.class.getModifiers())
                        && Modifier.isFinal(Twistquad.class.getModifiers()));
        check("OPEN", Twistquad.OPEN, 0);
        check("FIRST", Twistquad.FIRST, 1);
        check("SECOND", Twistquad.SECOND, 2);
        check("DRAW", Twistquad.DRAW, 3);
    }

    // ---- the game

    private static void promise1NewObject() {
        Twistquad game = new Twistquad();
        for (int cell = 0; cell < 36; cell++) {
            check("new: at(" + cell + ")", game.at(cell), 0);
        }
        check("new: result", game.result(), 0);
        check("new: mover", game.mover(), 1);
        check("new: mustTurn", truth(game.mustTurn()), 0);
        check("new: marbles", game.marbles(), 0);
        check("new: moves", game.moves(), 0);
        check("new: form", game.form(), 0);
        check("new: symmetries", game.symmetries(), 8);
        check("new: winningCells", game.winningCells(), 0);
        checkThrows("new: undo", STATE, () -> truth(game.undo()));
        check("new: put", game.put(0), 0);
        check("new: at(0) behind put(0)", game.at(0), 1);
    }

    private static void promise2Put() {
        for (int cell = 0; cell < 36; cell++) {
            Twistquad game = new Twistquad();
            check("put(" + cell + ")", game.put(cell), 0);
            check("at(" + cell + ")", game.at(cell), 1);
            check("marbles", game.marbles(), 1);
        }
        Twistquad game = new Twistquad();
        game.put(0);
        checkThrows("put before a turn", STATE, () -> game.put(1));
        checkThrows("put on no cell before a turn", BOUNDS, () -> game.put(36));
        game.turn(3, 0);
        String before = state(game);
        checkThrows("put(-1)", BOUNDS, () -> game.put(-1));
        checkThrows("put(36)", BOUNDS, () -> game.put(36));
        checkThrows("put(64)", BOUNDS, () -> game.put(64));
        checkThrows("put(min)", BOUNDS, () -> game.put(Integer.MIN_VALUE));
        checkThrows("put(max)", BOUNDS, () -> game.put(Integer.MAX_VALUE));
        checkThrows("put on a marble", STATE, () -> game.put(0));
        checkText("a put that throws changes nothing", state(game), before);
        check("put by the side 2", game.put(35), 0);
        check("at(35)", game.at(35), 2);

        check("a line by the marble of the side 1",
                laid(bits(0, 1, 2, 3), bits(30, 31, 32, 33)).put(4), 1);
        Twistquad second = laid(bits(0, 1, 2, 3, 20), bits(30, 31, 32, 33));
        check("a line by the marble of the side 2", second.put(34), 2);
        checkThat("no turn behind a winning marble", !second.mustTurn());
        checkThrows("put in a game that is over", STATE, () -> second.put(5));
        checkThrows("put on no cell in a game that is over", BOUNDS, () -> second.put(99));

        Twistquad full = nearlyFull();
        check("the last cell leaves the turn", full.put(35), 0);
        checkThat("the turn behind the last marble", full.mustTurn());
    }

    private static void promise3Turn() {
        int[] corners = {0, 3, 18, 21};
        int[] clockwise = {2, 8, 14, 1, 7, 13, 0, 6, 12};
        int[] inside = {0, 1, 2, 6, 7, 8, 12, 13, 14};
        for (int quarter = 0; quarter < 4; quarter++) {
            for (int place = 0; place < 9; place++) {
                int from = corners[quarter] + inside[place];
                int to = corners[quarter] + clockwise[place];
                Twistquad game = new Twistquad();
                game.put(from);
                check("turn(" + quarter + ", 0)", game.turn(quarter, 0), 0);
                check("the cell " + from + " clockwise", game.at(to), 1);
                check("only one marble", game.marbles(), 1);
                Twistquad back = new Twistquad();
                back.put(to);
                check("turn(" + quarter + ", 1)", back.turn(quarter, 1), 0);
                check("the cell " + to + " anticlockwise", back.at(from), 1);
                Twistquad other = new Twistquad();
                other.put(from);
                other.turn((quarter + 1) % 4, 0);
                check("another quarter stays", other.at(from), 1);
            }
        }
        Twistquad game = new Twistquad();
        checkThrows("turn before a marble", STATE, () -> game.turn(0, 0));
        checkThrows("turn(4, 2) before a marble", BOUNDS, () -> game.turn(4, 2));
        checkThrows("turn(0, 2) before a marble", ARGUMENT, () -> game.turn(0, 2));
        game.put(1);
        String before = state(game);
        checkThrows("turn(-1, 0)", BOUNDS, () -> game.turn(-1, 0));
        checkThrows("turn(4, 0)", BOUNDS, () -> game.turn(4, 0));
        checkThrows("turn(4, 5)", BOUNDS, () -> game.turn(4, 5));
        checkThrows("turn(max, 0)", BOUNDS, () -> game.turn(Integer.MAX_VALUE, 0));
        checkThrows("turn(0, -1)", ARGUMENT, () -> game.turn(0, -1));
        checkThrows("turn(3, 2)", ARGUMENT, () -> game.turn(3, 2));
        checkText("a turn that throws changes nothing", state(game), before);
        game.turn(0, 0);
        checkThrows("a second turn", STATE, () -> game.turn(0, 0));
        check("the side 2 is to move", game.mover(), 2);
    }

    private static void promise3TurnResults() {
        // The column 0 of the quarter 0, turned clockwise, joins the cells 3 and 4.
        Twistquad own = laid(bits(6, 12, 3, 4), bits(20, 22, 33, 35));
        own.put(0);
        check("the side that turns has a line", own.turn(0, 0), 1);
        check("nobody is to move", own.mover(), 0);
        checkThrows("turn in a game that is over", STATE, () -> own.turn(0, 1));
        checkThrows("no quarter in a game that is over", BOUNDS, () -> own.turn(7, 7));

        Twistquad given = laid(bits(20, 22, 33, 35, 29), bits(6, 12, 0, 3));
        given.put(4);
        given.turn(3, 0);
        given.put(30);
        check("the other side has a line", given.turn(0, 0), 2);

        // Columns 0 and 1 of the quarter 0 become its rows 0 and 1.
        Twistquad both = laid(bits(6, 12, 3, 4), bits(7, 13, 9, 10));
        both.put(0);
        both.turn(3, 0);
        both.put(1);
        check("both sides have a line", both.turn(0, 0), 3);
        check("a draw is over", both.mover(), 0);

        Twistquad full = nearlyFull();
        full.put(35);
        check("a full board without a line", full.turn(0, 1), 3);

        // With no cell empty a line of one side still wins: what each of the eight turns gives.
        int[] due = {1, 1, 1, 3, 3, 2, 3, 3};
        Twistquad last = laid(3031882452L, 65687594027L);
        last.put(8);
        for (int turn = 0; turn < 8; turn++) {
            check("the turn " + turn + " of a full board", last.turn(turn / 2, turn % 2), due[turn]);
            last.undo();
        }
    }

    private static void promise4Undo() {
        Twistquad game = new Twistquad();
        game.put(0);
        String put = state(game);
        game.turn(0, 0);
        String turned = state(game);
        game.put(35);
        check("undo of a marble", truth(game.undo()), 0);
        checkText("the state before the marble", state(game), turned);
        check("undo of a turn", truth(game.undo()), 1);
        checkText("the state before the turn", state(game), put);
        check("undo of the first marble", truth(game.undo()), 0);
        checkText("the state at the beginning", state(game), state(new Twistquad()));
        checkThrows("undo of nothing", STATE, () -> truth(game.undo()));

        for (int turn = 0; turn < 8; turn++) {
            Twistquad each = laid(bits(0, 3, 18, 21), bits(1, 4, 19, 22));
            each.put(8);
            String before = state(each);
            each.turn(turn / 2, turn % 2);
            check("undo of the turn " + turn, truth(each.undo()), 1);
            checkText("the state before the turn " + turn, state(each), before);
        }

        Twistquad won = laid(bits(0, 1, 2, 3), bits(30, 31, 32, 33));
        String open = state(won);
        won.put(4);
        check("undo of a winning marble", truth(won.undo()), 0);
        checkText("the state before the winning marble", state(won), open);
        check("the game is open again", won.result(), 0);

        Twistquad byTurn = laid(bits(6, 12, 3, 4), bits(20, 22, 33, 35));
        byTurn.put(0);
        String toTurn = state(byTurn);
        byTurn.turn(0, 0);
        check("undo of a winning turn", truth(byTurn.undo()), 1);
        checkText("the state before the winning turn", state(byTurn), toTurn);
        check("another turn is free", byTurn.turn(0, 1), 0);

        Twistquad relaid = new Twistquad();
        relaid.put(0);
        relaid.turn(0, 0);
        relaid.lay(bits(5), bits(7));
        checkThrows("undo behind lay", STATE, () -> truth(relaid.undo()));
        check("what was laid stays", relaid.at(5), 1);
    }

    private static void promise5Lay() {
        Twistquad game = new Twistquad();
        check("lay of nothing", game.lay(0, 0), 0);
        check("lay of one marble", game.lay(bits(35), 0), 0);
        check("the side 2 is to move", game.mover(), 2);
        check("at(35)", game.at(35), 1);
        check("lay of two marbles", game.lay(bits(35), bits(0)), 0);
        check("the side 1 is to move", game.mover(), 1);
        check("at(0)", game.at(0), 2);
        check("lay of a line of the side 1", game.lay(bits(0, 1, 2, 3, 4), bits(6, 7, 8, 9)), 1);
        check("lay of a line of the side 2", game.lay(bits(6, 7, 8, 9, 35), bits(0, 1, 2, 3, 4)), 2);
        check("lay of lines of both", game.lay(bits(0, 1, 2, 3, 4), bits(6, 7, 8, 9, 10)), 3);
        check("the game is over", game.mover(), 0);
        checkThat("no turn is due", !game.mustTurn());
        check("lay of a full board", game.lay(21058855892L, 47660620843L), 3);
        check("lay of a full board, lines of both", game.lay(32845912513L, 35873564222L), 3);
        check("lay of a full board, a line of the side 1", game.lay(22892217627L, 45827259108L), 1);
        check("lay of a full board, a line of the side 2", game.lay(39969928239L, 28749548496L), 2);

        game.lay(bits(5), bits(7));
        game.put(9);
        String before = state(game);
        checkThrows("a bit 36 of the side 1", ARGUMENT, () -> game.lay(1L << 36, 0));
        checkThrows("a bit 36 of the side 2", ARGUMENT, () -> game.lay(1, 1L << 36));
        checkThrows("a bit 63", ARGUMENT, () -> game.lay(Long.MIN_VALUE, 0));
        checkThrows("all bits", ARGUMENT, () -> game.lay(-1, -1));
        checkThrows("the same bit", ARGUMENT, () -> game.lay(bits(3, 4), bits(4)));
        checkThrows("the same bit, as many", ARGUMENT, () -> game.lay(bits(3), bits(3)));
        checkThrows("two more of the side 1", ARGUMENT, () -> game.lay(bits(3, 4), 0));
        checkThrows("one more of the side 2", ARGUMENT, () -> game.lay(0, bits(4)));
        checkText("a lay that throws changes nothing", state(game), before);
        game.lay(bits(5), bits(7));
        checkThat("lay ends the turn that was due", !game.mustTurn());
        check("lay forgets the moves", game.moves(), 0);
    }

    private static void promise6Result() {
        Twistquad game = laid(bits(0, 1, 2, 3), bits(30, 31, 32, 33));
        check("result: open", game.result(), 0);
        game.put(20);
        check("result: open, a turn due", game.result(), 0);
        game.undo();
        game.put(4);
        check("result: the side 1", game.result(), 1);
        game.undo();
        game.put(20);
        game.turn(1, 0);
        game.put(34);
        check("result: the side 2", game.result(), 2);
        game.lay(31L, 1984L);
        check("result: a draw", game.result(), 3);
        check("result: it stays", game.result(), 3);
    }

    private static void promise7Mover() {
        Twistquad game = new Twistquad();
        check("mover: first", game.mover(), 1);
        game.put(0);
        check("mover: to turn", game.mover(), 1);
        game.turn(1, 0);
        check("mover: second", game.mover(), 2);
        game.put(35);
        check("mover: second to turn", game.mover(), 2);
        game.turn(1, 0);
        check("mover: first again", game.mover(), 1);
        game.undo();
        check("mover: undone turn", game.mover(), 2);
        game.lay(31L, 960L);
        check("mover: over", game.mover(), 0);
        Twistquad won = laid(bits(0, 1, 2, 3), bits(30, 31, 32, 33));
        won.put(4);
        check("mover: over by a marble", won.mover(), 0);
        won.undo();
        check("mover: open again", won.mover(), 1);
    }

    private static void promise8MustTurn() {
        Twistquad game = new Twistquad();
        checkThat("no turn at first", !game.mustTurn());
        game.put(0);
        checkThat("a turn behind a marble", game.mustTurn());
        game.turn(0, 0);
        checkThat("no turn behind a turn", !game.mustTurn());
        game.undo();
        checkThat("a turn that was undone", game.mustTurn());
        game.undo();
        checkThat("a marble that was undone", !game.mustTurn());
        Twistquad won = laid(bits(0, 1, 2, 3), bits(30, 31, 32, 33));
        won.put(4);
        checkThat("no turn in a game that is over", !won.mustTurn());
    }

    private static void promise9At() {
        Twistquad game = laid(bits(0, 17, 35), bits(1, 18, 30));
        int[] due = new int[36];
        due[0] = due[17] = due[35] = 1;
        due[1] = due[18] = due[30] = 2;
        for (int cell = 0; cell < 36; cell++) {
            check("at(" + cell + ")", game.at(cell), due[cell]);
        }
        checkThrows("at(-1)", BOUNDS, () -> game.at(-1));
        checkThrows("at(36)", BOUNDS, () -> game.at(36));
        checkThrows("at(64)", BOUNDS, () -> game.at(64));
        checkThrows("at(max)", BOUNDS, () -> game.at(Integer.MAX_VALUE));
        checkThrows("at(min)", BOUNDS, () -> game.at(Integer.MIN_VALUE));
    }

    private static void promise10And11MarblesAndShare() {
        Twistquad game = new Twistquad();
        checkThat("share of none", game.share() == 0f);
        for (int due = 1; due <= 9; due++) {
            int cell = 36 - due;
            game.put(cell);
            check("marbles", game.marbles(), due);
            checkThat("share of " + due, game.share() == (float) due / 36f);
            game.undo();
            check("marbles, one undone", game.marbles(), due - 1);
            game.put(cell);
            game.turn(0, 1);
            game.undo();
            check("marbles, a turn undone", game.marbles(), due);
            game.turn(0, 0);
        }
        Twistquad full = nearlyFull();
        check("marbles of 35", full.marbles(), 35);
        full.put(35);
        check("marbles of 36", full.marbles(), 36);
        checkThat("share of all", full.share() == 1f);
        full.undo();
        checkThat("share of 35", full.share() == 35f / 36f);
        checkThat("share of 35 as a number", full.share() == 0.9722222f);
    }

    // ---- the record

    private static void promise12Moves() {
        Twistquad game = new Twistquad();
        game.put(0);
        check("moves: a marble alone", game.moves(), 1);
        game.turn(0, 0);
        check("moves: with its turn", game.moves(), 1);
        game.put(35);
        check("moves: two", game.moves(), 2);
        game.undo();
        check("moves: a marble undone", game.moves(), 1);
        game.undo();
        check("moves: a turn undone", game.moves(), 1);
        game.undo();
        check("moves: all undone", game.moves(), 0);
        game.put(1);
        game.lay(bits(1), bits(2));
        check("moves: laid", game.moves(), 0);
        game.put(3);
        checkThrows("lay that throws", ARGUMENT, () -> game.lay(-1, 0));
        check("moves: they stay", game.moves(), 1);
    }

    private static void promise13And14Texts() {
        Twistquad game = new Twistquad();
        checkThrows("textLength of no move", BOUNDS, () -> game.textLength(0));
        checkThrows("textAt of no move", BOUNDS, () -> game.textAt(0, 0));
        game.put(14);
        checkText("a marble alone", Position.textOf(game, 0), "c3");
        checkThrows("a turn that is not yet made", BOUNDS, () -> game.textAt(0, 2));
        game.turn(0, 0);
        checkText("its turn", Position.textOf(game, 0), "c30R");
        game.put(5);
        game.turn(3, 1);
        game.put(30);
        game.turn(1, 1);
        game.put(35);
        game.turn(2, 0);
        checkText("the first move stays", Position.textOf(game, 0), "c30R");
        checkText("the second", Position.textOf(game, 1), "f13L");
        checkText("the third", Position.textOf(game, 2), "a61L");
        checkText("the fourth", Position.textOf(game, 3), "f62R");
        game.undo();
        checkText("the turn undone", Position.textOf(game, 3), "f6");
        game.turn(2, 1);
        checkText("another turn", Position.textOf(game, 3), "f62L");
        check("length 4", game.textLength(3), 4);
        String before = state(game);
        checkThrows("textLength(-1)", BOUNDS, () -> game.textLength(-1));
        checkThrows("textLength(4)", BOUNDS, () -> game.textLength(4));
        checkThrows("textLength(max)", BOUNDS, () -> game.textLength(Integer.MAX_VALUE));
        checkThrows("textAt(-1, 0)", BOUNDS, () -> game.textAt(-1, 0));
        checkThrows("textAt(4, 0)", BOUNDS, () -> game.textAt(4, 0));
        checkThrows("textAt(0, -1)", BOUNDS, () -> game.textAt(0, -1));
        checkThrows("textAt(0, 4)", BOUNDS, () -> game.textAt(0, 4));
        checkThrows("textAt(0, min)", BOUNDS, () -> game.textAt(0, Integer.MIN_VALUE));
        checkText("nothing is changed", state(game), before);

        Twistquad won = laid(bits(0, 1, 2, 3), bits(30, 31, 32, 33));
        won.put(4);
        check("length of a winning marble", won.textLength(0), 2);
        checkText("a winning marble", Position.textOf(won, 0), "e1");
        checkThrows("no turn behind it", BOUNDS, () -> won.textAt(0, 2));

        for (int cell = 0; cell < 36; cell++) {
            Twistquad each = new Twistquad();
            each.put(cell);
            check("column of " + cell, each.textAt(0, 0), "abcdef".charAt(cell % 6));
            check("row of " + cell, each.textAt(0, 1), "123456".charAt(cell / 6));
        }
    }

    // ---- lines and forms

    private static void promise15Lines() {
        int places = 0;
        int[] rowSteps = {0, 1, 1, 1};
        int[] columnSteps = {1, 0, 1, -1};
        for (int direction = 0; direction < 4; direction++) {
            for (int cell = 0; cell < 36; cell++) {
                int lastRow = cell / 6 + 4 * rowSteps[direction];
                int lastColumn = cell % 6 + 4 * columnSteps[direction];
                int step = 6 * rowSteps[direction] + columnSteps[direction];
                if (lastRow < 6 && lastColumn >= 0 && lastColumn < 6) {
                    places++;
                    long line = bits(cell, cell + step, cell + 2 * step, cell + 3 * step,
                            cell + 4 * step);
                    checkOneLine(line, cell, step);
                }
            }
        }
        check("places for a line", places, 32);
        Twistquad row = laid(bits(0, 1, 2, 3, 4, 5), bits(12, 13, 14, 26, 27, 28));
        check("a whole row", row.lines(1), 2);
        check("no line", row.lines(2), 0);
        Twistquad over = laid(bits(4, 5, 6, 7, 8), bits(22, 23, 24, 25));
        check("no line round an edge", over.lines(1), 0);
        checkThrows("lines(0)", BOUNDS, () -> over.lines(0));
        checkThrows("lines(3)", BOUNDS, () -> over.lines(3));
        checkThrows("lines(-1)", BOUNDS, () -> over.lines(-1));
        Twistquad cross = laid(bits(14, 2, 8, 20, 26, 12, 13, 15, 16), bits(0, 5, 9, 18, 30, 35, 28, 3));
        check("a row and a column that cross", cross.lines(1), 2);
    }

    /** Five cells are a line for either side; without one of them they are a four. */
    private static void checkOneLine(long line, int cell, int step) {
        long rest = 0;
        for (int other = 0; Long.bitCount(rest) < 4; other += 7) {
            long bit = 1L << other % 36;
            if ((line & bit) == 0) {
                rest |= bit;
            }
        }
        Twistquad game = laid(line, rest);
        check("a line from " + cell + " by " + step, game.lines(1), 1);
        check("its result", game.result(), 1);
        for (int index = 0; index < 5; index++) {
            long four = line & ~(1L << cell + index * step);
            Twistquad open = laid(four, rest);
            check("no line without " + index, open.lines(1), 0);
            checkThat("a four without " + index, open.fours(1) >= 1);
            check("the marble that wins", open.put(cell + index * step), 1);
        }
    }

    private static void promise16Fours() {
        Twistquad row = laid(bits(7, 8, 9, 10), bits(0, 1, 2, 3));
        check("fours in the middle of a row", row.fours(1), 2);
        check("fours at the end of a row", row.fours(2), 1);
        check("none", new Twistquad().fours(1), 0);
        Twistquad stopped = laid(bits(0, 1, 2, 3), bits(4, 12, 20, 28));
        check("a four that is stopped", stopped.fours(1), 0);
        check("fours that slant", stopped.fours(2), 0);
        check("slanting with a gap", laid(bits(1, 9, 15, 19), bits(0, 7, 21, 28)).fours(2), 1);
        check("slanting down left", laid(bits(5, 10, 15, 20), bits(0, 35, 2, 33)).fours(1), 1);
        check("down left, both places", laid(bits(10, 15, 20, 25), bits(0, 35, 2, 33)).fours(1), 2);
        check("a gap", laid(bits(0, 1, 3, 4), bits(30, 31, 33, 34)).fours(1), 1);
        check("a line is no four", laid(bits(0, 6, 12, 18, 24), bits(30, 3, 5, 34)).fours(1), 0);
        check("a line and a four", laid(bits(0, 6, 12, 18, 24), bits(1, 3, 5, 34)).fours(1), 1);
        check("not round an edge", laid(bits(2, 3, 4, 6), bits(14, 15, 16, 18)).fours(1), 0);
        checkThrows("fours(0)", BOUNDS, () -> row.fours(0));
        checkThrows("fours(3)", BOUNDS, () -> row.fours(3));
    }

    private static void promise17FoursBehind() {
        Twistquad game = laid(bits(6, 12, 3, 4), bits(7, 13, 9, 10));
        String before = state(game);
        check("foursBehind(1, 0, 0)", game.foursBehind(1, 0, 0), 1);
        check("foursBehind(2, 0, 0)", game.foursBehind(2, 0, 0), 1);
        check("foursBehind(1, 0, 1)", game.foursBehind(1, 0, 1), 0);
        check("foursBehind(1, 3, 1)", game.foursBehind(1, 3, 1), 0);
        checkText("foursBehind changes nothing", state(game), before);
        checkThrows("foursBehind(0, 0, 0)", BOUNDS, () -> game.foursBehind(0, 0, 0));
        checkThrows("foursBehind(3, 0, 0)", BOUNDS, () -> game.foursBehind(3, 0, 0));
        checkThrows("foursBehind(1, 4, 0)", BOUNDS, () -> game.foursBehind(1, 4, 0));
        checkThrows("foursBehind(1, -1, 0)", BOUNDS, () -> game.foursBehind(1, -1, 0));
        checkThrows("foursBehind(0, 0, 2)", BOUNDS, () -> game.foursBehind(0, 0, 2));
        checkThrows("foursBehind(1, 9, 9)", BOUNDS, () -> game.foursBehind(1, 9, 9));
        checkThrows("foursBehind(1, 0, 2)", ARGUMENT, () -> game.foursBehind(1, 0, 2));
        checkThrows("foursBehind(1, 0, -1)", ARGUMENT, () -> game.foursBehind(1, 0, -1));
        game.put(20);
        check("with a turn due", game.foursBehind(2, 0, 0), 1);
        game.lay(bits(0, 1, 2, 3, 4), bits(30, 31, 32, 33));
        check("in a game that is over", game.foursBehind(2, 2, 0), 0);
        check("in a game that is over, another turn", game.foursBehind(2, 0, 0), 1);

        int[] first = {3, 3, 0, 4, 2, 2, 1, 2};
        int[] second = {1, 0, 0, 0, 3, 1, 1, 2};
        Twistquad crowded = laid(34897890403L, 3647476496L);
        check("fours of the side 1, crowded", crowded.fours(1), 3);
        check("fours of the side 2, crowded", crowded.fours(2), 1);
        for (int turn = 0; turn < 8; turn++) {
            int quarter = turn / 2;
            int way = turn % 2;
            check("foursBehind(1, ..) " + turn, crowded.foursBehind(1, quarter, way), first[turn]);
            check("foursBehind(2, ..) " + turn, crowded.foursBehind(2, quarter, way), second[turn]);
        }
    }

    private static void promise18Form() {
        check("form of nothing", new Twistquad().form(), 0);
        for (int cell : new int[] {0, 5, 30, 35}) {
            check("form of a corner", laid(bits(cell), 0).form(), 1);
        }
        for (int cell : new int[] {1, 4, 6, 11, 24, 29, 31, 34}) {
            check("form of an edge", laid(bits(cell), 0).form(), 3);
        }
        for (int cell : new int[] {14, 15, 20, 21}) {
            check("form of the middle", laid(bits(cell), 0).form(), 4782969);
        }
        check("form of two", laid(bits(7), bits(0)).form(), 2189);
        check("form of two, turned", laid(bits(28), bits(35)).form(), 2189);
        check("form of two, on a side", laid(bits(0), bits(1)).form(), 7);
        check("form of two, mirrored", laid(bits(35), bits(29)).form(), 7);
        check("form of 10", laid(2717909152L, 142613504L).form(), 231215648334975L);
        check("form of 21", laid(34512845256L, 311641616L).form(), 324536925158799L);
        check("form of 35", laid(59062914867L, 9589453004L).form(), 76987902030331990L);
        check("form of 36", laid(30700760149L, 38018716586L).form(), 82757961479963606L);
    }

    private static void promise19Symmetries() {
        check("symmetries of nothing", new Twistquad().symmetries(), 8);
        check("symmetries of a corner", laid(bits(0), 0).symmetries(), 2);
        check("symmetries of another corner", laid(bits(5), 0).symmetries(), 2);
        check("symmetries of an edge", laid(bits(1), 0).symmetries(), 1);
        check("symmetries of two corners", laid(bits(0), bits(5)).symmetries(), 1);
        check("symmetries of opposite corners", laid(bits(0), bits(35)).symmetries(), 2);
        check("a half turn", laid(bits(1, 34), bits(0, 35)).symmetries(), 2);
        check("a mirror", laid(bits(0, 5), bits(1, 4)).symmetries(), 2);
        check("both slanting mirrors", laid(bits(0, 35), bits(5, 30)).symmetries(), 4);
        check("both straight mirrors", laid(bits(1, 4, 31, 34), bits(7, 10, 25, 28)).symmetries(), 4);
        check("turns alone", laid(bits(1, 11, 34, 24), bits(6, 4, 29, 31)).symmetries(), 4);
        check("all", laid(bits(0, 5, 30, 35), bits(14, 15, 20, 21)).symmetries(), 8);
    }

    // ---- threats and endings

    private static void promise20WinningCells() {
        check("none at first", new Twistquad().winningCells(), 0);
        Twistquad game = laid(bits(7, 8, 9, 10), bits(0, 1, 2, 3));
        check("winning cells of the side 1", game.winningCells(), 2);
        game.put(6 * 3);
        checkThrows("winningCells with a turn due", STATE, () -> game.winningCells());
        game.turn(3, 0);
        check("winning cells of the side 2", game.winningCells(), 1);
        game.put(4);
        checkThrows("winningCells of a game that is over", STATE, () -> game.winningCells());
        Twistquad cross = laid(bits(0, 1, 2, 3, 10, 16, 22, 28),
                bits(5, 30, 35, 13, 20, 27, 24, 33));
        check("a cell of two lines counts once", cross.winningCells(), 2);
        check("stopped", laid(bits(0, 1, 2, 3), bits(4, 20, 27, 34)).winningCells(), 0);
    }

    private static void promise21WinningTurns() {
        Twistquad game = laid(bits(6, 12, 3, 4), bits(20, 22, 33, 35));
        String before = state(game);
        check("one turn wins", game.winningTurns(0), 1);
        check("no turn wins", game.winningTurns(15), 0);
        checkText("winningTurns changes nothing", state(game), before);
        checkThrows("winningTurns(-1)", BOUNDS, () -> game.winningTurns(-1));
        checkThrows("winningTurns(36)", BOUNDS, () -> game.winningTurns(36));
        checkThrows("winningTurns on a marble", STATE, () -> game.winningTurns(6));
        check("by the marble itself", laid(bits(0, 1, 2, 3), bits(30, 31, 32, 33)).winningTurns(4), 8);
        check("not by the marble", laid(bits(0, 1, 2, 3), bits(30, 31, 32, 33)).winningTurns(34), 0);
        // The same turn gives the side 2 the row 1: a draw by that turn.
        Twistquad both = laid(bits(6, 12, 3, 4, 35), bits(1, 7, 13, 9, 10));
        check("a turn that gives both a line", both.winningTurns(0), 0);
        both.put(0);
        check("it is a draw", both.turn(0, 0), 3);
        int[] wins = {
            -1, 0, 0, -1, -1, -1, -1, 0, -1, -1, 0, 0, -1, -1, -1, 0, 0, 0,
            -1, -1, -1, -1, 0, 0, 8, -1, 0, -1, 2, 0, 1, -1, 0, 0, 0, 0,
        };
        Twistquad crowded = laid(3171128L, 2316046401L);
        check("crowded: mover", crowded.mover(), 2);
        check("crowded: winningCells", crowded.winningCells(), 1);
        for (int cell = 0; cell < 36; cell++) {
            int each = cell;
            if (wins[cell] < 0) {
                checkThrows("crowded: a marble on " + cell, STATE, () -> crowded.winningTurns(each));
            } else {
                check("crowded: winningTurns(" + cell + ")", crowded.winningTurns(cell), wins[cell]);
            }
        }
        Twistquad due = new Twistquad();
        due.put(0);
        checkThrows("winningTurns with a turn due", STATE, () -> due.winningTurns(1));
        checkThrows("no cell, with a turn due", BOUNDS, () -> due.winningTurns(36));
        Twistquad over = laid(31L, 960L);
        checkThrows("winningTurns of a game that is over", STATE, () -> over.winningTurns(20));
        checkThrows("no cell of a game that is over", BOUNDS, () -> over.winningTurns(-5));
        check("a gap in a row", laid(bits(0, 1, 3, 4), bits(20, 22, 33, 35)).winningTurns(2), 8);
    }

    private static void promise22To24Endings() {
        // One, two and three empty cells, a marble to be put.
        checkEnding(laid(34558613750L, 32013379337L), 1, 248);
        checkEnding(laid(27780068408L, 38791924679L), 1, 248);
        checkEnding(laid(24225524550L, 44493919417L), 0, 120);
        checkEnding(laid(19718376408L, 49000051751L), 0, 162);
        checkEnding(laid(53786223511L, 14664817768L), 1, 227);
        checkEnding(laid(43182114311L, 24463620584L), 1, 32);
        checkEnding(laid(56604305220L, 12115155115L), 1, 37);
        checkEnding(laid(40316877609L, 28268315862L), -1, 128);
        checkEnding(laid(50760616525L, 17956238770L), 0, 173);
        checkEnding(laid(7596651412L, 61122824235L), 1, 48);
        checkEnding(laid(49216238374L, 19501073625L), 1, 89);
        checkEnding(laid(50149081253L, 18566196826L), 1, 176);
        checkEnding(laid(12619522874L, 21736004805L), 0, 176);
        checkEnding(laid(20630185033L, 43790129590L), -1, 72);
        checkEnding(laid(22255327446L, 46463100449L), 0, 162);

        // A marble wins by itself, though no turn behind it would.
        checkEnding(laid(19836278958L, 48883181393L), 1, 112);
        checkEnding(laid(56346763977L, 11835841846L), 1, 232);
        check("no turn is needed", laid(19836278958L, 48883181393L).winningTurns(14), 8);

        // None to three empty cells, a turn due.
        checkEndingBehind(39028379494L, 29682708633L, 23, 1, 6);
        checkEndingBehind(62934244552L, 1490264887L, 32, 1, 0);
        checkEndingBehind(9250876141L, 57321116946L, 31, 0, 0);
        checkEndingBehind(46961536662L, 21757907305L, 15, 0, 1);
        checkEndingBehind(36888221457L, 27536287854L, 32, 1, 4);
        checkEndingBehind(22332656558L, 46386557969L, 6, 0, 4);
        checkEndingBehind(5847659002L, 62334914053L, 15, -1, 0);
        checkEndingBehind(27358077585L, 41361366316L, 1, 1, 3);
        checkEndingBehind(51961854264L, 6019155655L, 33, -1, 0);
        checkEndingBehind(16565422945L, 52153857054L, 17, 0, 7);
        checkEndingBehind(14030044980L, 37365907659L, 23, -1, 0);
        checkEndingBehind(17569474589L, 51141482274L, 6, 1, 3);
        checkEndingBehind(36847365527L, 27040240168L, 29, 0, 2);
    }

    private static void checkEndingBehind(long first, long second, int cell, int value, int best) {
        Twistquad game = laid(first, second);
        check("put(" + cell + ")", game.put(cell), 0);
        checkEnding(game, value, best);
    }

    private static void checkEnding(Twistquad game, int value, int best) {
        String before = state(game);
        check("value of " + before, game.value(), value);
        check("valueOnBoards of " + before, game.valueOnBoards(), value);
        check("bestMove of " + before, game.bestMove(), best);
        check("value of " + before + ", once more", game.value(), value);
        checkText("solving changes nothing", state(game), before);
    }

    private static void promise22To24Refusals() {
        Twistquad four = laid(bits(0, 1, 4, 5, 8, 9, 12, 13, 16, 17, 20, 21, 24, 25, 28, 29),
                bits(2, 3, 6, 7, 10, 11, 14, 15, 18, 19, 22, 23, 26, 27, 30, 31));
        checkThrows("value with four empty cells", STATE, () -> four.value());
        checkThrows("valueOnBoards with four empty cells", STATE, () -> four.valueOnBoards());
        checkThrows("bestMove with four empty cells", STATE, () -> four.bestMove());
        four.put(32);
        check("three empty cells and a turn due", four.value(), four.valueOnBoards());
        checkThat("bestMove is a turn", four.bestMove() >= 0 && four.bestMove() < 8);
        four.undo();
        checkThrows("value with four empty cells again", STATE, () -> four.value());
        Twistquad fresh = new Twistquad();
        checkThrows("value of a new game", STATE, () -> fresh.value());
        checkThrows("valueOnBoards of a new game", STATE, () -> fresh.valueOnBoards());
        checkThrows("bestMove of a new game", STATE, () -> fresh.bestMove());
        Twistquad full = nearlyFull();
        full.put(35);
        full.turn(0, 0);
        checkThrows("value of a draw", STATE, () -> full.value());
        checkThrows("valueOnBoards of a draw", STATE, () -> full.valueOnBoards());
        checkThrows("bestMove of a draw", STATE, () -> full.bestMove());
    }

    // ---- what no single promise tells

    /** README.md says what each of these calls answers. */
    private static void theRunOfTheReadme() {
        Twistquad game = new Twistquad();
        check("README: put(14)", game.put(14), Twistquad.OPEN);
        checkThat("README: mustTurn", game.mustTurn());
        check("README: turn(0, 0)", game.turn(0, 0), Twistquad.OPEN);
        check("README: at(12)", game.at(12), 1);
        check("README: mover", game.mover(), 2);
        check("README: moves", game.moves(), 1);
        check("README: textLength(0)", game.textLength(0), 4);
        checkText("README: the text of the move 0", Position.record(game), "c30R");
        check("README: textAt(0, 3)", game.textAt(0, 3), 'R');
        checkThat("README: undo", game.undo());
        check("README: lay", game.lay(13743829811L, 54908472524L), Twistquad.OPEN);
        check("README: value", game.value(), 1);
        check("README: bestMove", game.bestMove(), 209);
        check("README: put(26)", game.put(26), Twistquad.OPEN);
        check("README: turn(0, 1)", game.turn(0, 1), Twistquad.FIRST);
    }

    private static void objectsAreApart() {
        Twistquad one = new Twistquad();
        Twistquad other = new Twistquad();
        one.put(0);
        check("the other object", other.marbles(), 0);
        other.put(1);
        other.turn(3, 0);
        checkThat("the one object", one.mustTurn());
        check("its moves", one.textLength(0), 2);
    }

    /** All calls of a run share one room (see ../shared/LANGUAGE.md): none may fill it. */
    private static void callsMakeNoObjects() {
        Twistquad game = laid(bits(0, 1, 4, 5, 8, 9, 12, 13, 16, 17, 20, 21, 24, 25, 28, 29),
                bits(2, 3, 6, 7, 10, 11, 14, 15, 18, 19, 22, 23, 26, 27, 30, 31));
        game.put(32);
        if (!(java.lang.management.ManagementFactory.getThreadMXBean()
                instanceof com.sun.management.ThreadMXBean)) {
            return;
        }
        com.sun.management.ThreadMXBean threads = (com.sun.management.ThreadMXBean)
                java.lang.management.ManagementFactory.getThreadMXBean();
        long once = useAll(game);
        long before = threads.getThreadAllocatedBytes(Thread.currentThread().getId());
        long sum = 0;
        for (int round = 0; round < 30; round++) {
            sum += useAll(game);
        }
        long made = threads.getThreadAllocatedBytes(Thread.currentThread().getId()) - before;
        checkThat("calls make no objects, but made " + made + " bytes", made < 100_000);
        check("each round answers the same", sum, 30 * once);
    }

    private static long useAll(Twistquad game) {
        long sum = game.value() + game.valueOnBoards() + game.bestMove() + game.form();
        sum += game.symmetries() + game.lines(1) + game.fours(2) + game.foursBehind(1, 2, 1);
        sum += game.turn(0, 0) + game.winningCells() + game.textAt(0, 3) + game.marbles();
        return sum + truth(game.undo());
    }
}
