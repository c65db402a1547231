import java.util.Arrays;

/** Counts the answers of a test that are not the ones due, and ends it accordingly. */
final class Due {
    static final long THROWN = 1000;

    private static String sentence = "";
    private static int askedOfSentence = 0;
    private static int wrong = 0;
    private static int asked = 0;

    private Due() {
    }

    /** From here on, what is asked is asked of these words of the document. */
    static void sentence(String words) {
        lookAtSentence();
        sentence = "\"" + words + "\": ";
        askedOfSentence = 0;
    }

    /** A sentence of which nothing is asked has no test. */
    private static void lookAtSentence() {
        if (!sentence.isEmpty() && askedOfSentence == 0) {
            wrong++;
            System.out.println(sentence + "the test asked nothing");
        }
    }

    static void is(String call, long got, long want) {
        asked++;
        askedOfSentence++;
        if (got != want) {
            wrong++;
            System.out.println(sentence + call + " answered " + got + ", due is " + want);
        }
    }

    static void is(String call, boolean got, boolean want) {
        is(call, got ? 1 : 0, want ? 1 : 0);
    }

    /** The last row made is just these octets: none before them, none behind them. */
    static void rowIs(String what, DataGuards x, byte[] want) {
        for (int i = 0; i < want.length; i++) {
            is(what + ": out(" + i + ") of " + Arrays.toString(want), outOrThrown(x, i), want[i]);
        }
        outThrows(what, x, -1);
        outThrows(what, x, want.length);
    }

    static void outThrows(String what, DataGuards x, int i) {
        is(what + ": out(" + i + "), " + THROWN + " for the exception", outOrThrown(x, i), THROWN);
    }

    static long outOrThrown(DataGuards x, int i) {
        try {
            return x.out(i);
        } catch (ArrayIndexOutOfBoundsException e) {
            // A subclass, or the class above, is not what the document names.
            return e.getClass() == ArrayIndexOutOfBoundsException.class ? THROWN : THROWN + 1;
        }
    }

    static void end() {
        lookAtSentence();
        if (asked == 0) {
            System.out.println("the test asked nothing");
        }
        if (wrong != 0 || asked == 0) {
            System.exit(1);
        }
    }
}
