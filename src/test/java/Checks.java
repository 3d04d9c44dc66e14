import java.util.List;

/**
 * What the tests share: they count checks, and tell each answer that is not the one that is due. A
 * test extends this class, since a class without a package can't be imported.
 */
abstract class Checks {
    static final Class<?> BOUNDS = IndexOutOfBoundsException.class;
    static final Class<?> ARGUMENT = IllegalArgumentException.class;
    static final Class<?> STATE = IllegalStateException.class;

    private static final int MOST_TOLD_OF_A_SENTENCE = 5;

    private static int sentences = 0;
    private static int checks = 0;
    private static int wrong = 0;
    private static String words = "";
    private static int wrongHere = 0;

    interface Body {
        void run();
    }

    interface Call {
        long on(Twistquad game);
    }

    /** A test of its own for one sentence of the document: what it throws is its own failure, too. */
    static void sentence(String sentence, Body test) {
        sentences++;
        words = sentence;
        wrongHere = 0;
        int checksBefore = checks;
        try {
            test.run();
        } catch (RuntimeException e) {
            tellWrong("the test was ended by " + e);
        }
        if (checks == checksBefore) {
            tellWrong("the test checked nothing");
        }
        words = "";
        wrongHere = 0;
    }

    static void check(String what, long got, long due) {
        checks++;
        if (got != due) {
            tellWrong(what + " answered " + got + ", due is " + due);
        }
    }

    static void checkThat(String what, boolean holds) {
        checks++;
        if (!holds) {
            tellWrong(what + " does not hold");
        }
    }

    static void checkText(String what, String got, String due) {
        checks++;
        if (!got.equals(due)) {
            tellWrong(what + " answered " + got + ", due is " + due);
        }
    }

    static void checkThrows(String what, Class<?> due, Body call) {
        checks++;
        Class<?> got = null;
        try {
            call.run();
        } catch (RuntimeException e) {
            got = e.getClass();
        }
        if (got != due) {
            tellWrong(what + " threw " + got + ", due is " + due);
        }
    }

    /** Tells the first of the answers that differ. */
    static void checkSame(String what, List<String> got, List<String> due) {
        checks++;
        for (int index = 0; index < Math.max(got.size(), due.size()); index++) {
            String one = index < got.size() ? got.get(index) : "nothing";
            String other = index < due.size() ? due.get(index) : "nothing";
            if (!one.equals(other)) {
                tellWrong(what + ": " + one + ", due is " + other);
                return;
            }
        }
    }

    /** The call throws what is due, and the game goes on, and back, as one that was never asked. */
    static void checkRefused(Class<?> due, Position position, String call, Call refused) {
        String what = call + " in " + position;
        Twistquad game = position.game();
        checkThrows(what, due, () -> refused.on(game));
        checkSame("behind " + what, Position.answers(game), Position.answers(position.game()));
        Twistquad again = position.game();
        checkThrows(what + ", again", due, () -> refused.on(again));
        checkSame("on and back behind " + what,
                Position.onAndBack(again), Position.onAndBack(position.game()));
    }

    static void end(String name) {
        System.out.println(name + ": " + (sentences == 0 ? "" : sentences + " sentences, ")
                + checks + " checks, " + wrong + " wrong");
        if (wrong != 0) {
            System.exit(1);
        }
    }

    static long truth(boolean b) {
        return b ? 1 : 0;
    }

    static long bits(int... cells) {
        long sum = 0;
        for (int cell : cells) {
            sum |= 1L << cell;
        }
        return sum;
    }

    /**
     * Numbers beyond a range on either side: the next ones, those that a shift or a cast to fewer bits
     * would take for one within it, and the ends of int.
     */
    static int[] beyond(int least, int greatest) {
        int[] tries = {
            least - 1, least - 2, greatest + 1, greatest + 2,
            least - 32, least - 64, least + 32, least + 64, greatest + 32, greatest + 64,
            least + 128, least + 256, least - 256, least + 65536, least - 65536,
            Integer.MIN_VALUE, Integer.MIN_VALUE + 1, Integer.MIN_VALUE + least,
            Integer.MIN_VALUE + greatest, Integer.MAX_VALUE - 1, Integer.MAX_VALUE,
        };
        int count = 0;
        for (int each : tries) {
            if (each < least || each > greatest) {
                tries[count] = each;
                count++;
            }
        }
        return java.util.Arrays.copyOf(tries, count);
    }

    private static void tellWrong(String what) {
        wrong++;
        wrongHere++;
        if (words.isEmpty()) {
            System.out.println(what);
            return;
        }
        if (wrongHere == 1) {
            System.out.println("NOT HELD: " + words);
        }
        if (wrongHere <= MOST_TOLD_OF_A_SENTENCE) {
            System.out.println("    " + what);
        }
    }
}
