/**
 * Runs of received rows, a letter each: f the first right one, o OK, l some lost (by 2 and by 3 in turn),
 * r repeated, w wrong sequence, e in error.
 */
final class Letters {
    private static final String KINDS = "orlwef";

    private final DataGuards x;
    private final int profile;
    private int counter = 5;
    private int lost = 0;

    Letters(DataGuards x, int profile) {
        this.x = x;
        this.profile = profile;
    }

    /** Tells the receiver such a row; each must be found to be what its letter says. */
    void receive(char letter) {
        int kind = KINDS.indexOf(letter);
        counter = (counter + steps(letter)) % Rows.counters(profile);
        int found = letter == 'e' ? Rows.receiveError(x) : Rows.receiveCounter(x, profile, counter);
        Due.is("a row of " + letter, found, kind);
    }

    void receive(String letters) {
        for (char letter : letters.toCharArray()) {
            receive(letter);
        }
    }

    private int steps(char letter) {
        switch (letter) {
            case 'o':
                return 1;
            case 'l':
                lost++;
                return 2 + lost % 2;
            case 'w':
                return 4;
            default:
                return 0;
        }
    }

    /** The states behind each row of a run, a digit each, on a new object. */
    static void statesAre(int profile, String rows, String states) {
        Due.is("a digit for each letter of " + rows, rows.length(), states.length());
        DataGuards x = new DataGuards(profile);
        Letters run = new Letters(x, profile);
        Due.is("state() before " + rows, x.state(), 0);
        for (int i = 0; i < rows.length(); i++) {
            run.receive(rows.charAt(i));
            Due.is(rows + ", state() behind row " + i, x.state(), states.charAt(i) - '0');
        }
    }
}
