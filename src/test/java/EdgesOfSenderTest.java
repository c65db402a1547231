/** The boundary cases of the sender, counter and plant, a sentence of the document each. */
public final class EdgesOfSenderTest {
    private static final int LOWEST = Integer.MIN_VALUE;
    private static final int HIGHEST = Integer.MAX_VALUE;
    private static final byte[] DATA = Rows.octets(10, 20, 255);

    public static void main(String[] args) {
        counterAtFirst();
        behindTheLastOne();
        flipForTheNextRow();
        flipByItsPlace();
        skipGoesRound();
        counterIsTheSenders();
        lowestBitsOfTheMask();
        endsOfASkip();
        maskOfASkip();
        insteadOfOneBefore();
        noSuchKind();
        placesOutside();
        Due.end();
    }

    private static void counterAtFirst() {
        Due.sentence("THE SENDER has a COUNTER, at first 0");
        for (int profile = 1; profile <= 3; profile++) {
            DataGuards x = new DataGuards(profile);
            Due.is("counter()", x.counter(), 0);
            made("the first row", x, Rows.row(profile, 8, 0, DATA));
        }
    }

    private static void behindTheLastOne() {
        Due.sentence("each ROW that it makes has it, then it is the next one (behind the last one 0)");
        for (int profile = 1; profile <= 2; profile++) {
            int last = Rows.counters(profile) - 1;
            DataGuards x = before(profile, last);
            made("the last counter", x, Rows.row(profile, 8, last, DATA));
            Due.is("counter() behind the last one", x.counter(), 0);
            made("behind the last one", x, Rows.row(profile, 8, 0, DATA));
            Due.is("counter() behind that", x.counter(), 1);
            made("and the next one", x, Rows.row(profile, 8, 1, DATA));
        }
        // Profile 3 goes on where the others begin anew.
        for (int last : new int[] {14, 255}) {
            DataGuards x = before(3, last);
            made("counter " + last, x, Rows.row(3, 8, last, DATA));
            Due.is("counter()", x.counter(), last + 1);
            made("the next one", x, Rows.row(3, 8, last + 1, DATA));
        }
    }

    /** An object whose sender's counter is this one. */
    private static DataGuards before(int profile, int counter) {
        DataGuards x = new DataGuards(profile);
        while (x.counter() < counter) {
            x.plant(1, Math.min(100, counter - 1 - x.counter()), 0);
            x.protect(8);
        }
        Due.is("counter()", x.counter(), counter);
        return x;
    }

    private static void flipForTheNextRow() {
        Due.sentence("A FLIP is planted for its next ROW");
        for (int profile = 1; profile <= 3; profile++) {
            DataGuards x = new DataGuards(profile);
            made("before it is planted", x, Rows.row(profile, 8, 0, DATA));
            x.plant(0, 1, 6);
            Due.rowIs("the row made before", x, Rows.row(profile, 8, 0, DATA));
            Due.is("refused", x.protect(-1), -2);
            made("the next row", x, Rows.flipped(Rows.row(profile, 8, 1, DATA), 1, 6));
            made("the one behind it", x, Rows.row(profile, 8, 2, DATA));
        }
    }

    private static void flipByItsPlace() {
        Due.sentence("an octet of it (by its place in the ROW, if it has one) is xor a mask");
        for (int profile = 1; profile <= 3; profile++) {
            byte[] full = Rows.rising(64, 30);
            byte[] right = Rows.row(profile, 8, 0, full);
            for (int place : new int[] {0, 1, 2, right.length - 2, right.length - 1}) {
                DataGuards x = new DataGuards(profile);
                x.plant(0, place, 129);
                Rows.give(x, full);
                Due.is("protect(8)", x.protect(8), right.length);
                Due.rowIs("place " + place, x, Rows.flipped(right, place, 129));
            }
            placeThatIsNone(profile, full);
            placeOfTheShortestRow(profile);
        }
    }

    private static void placeThatIsNone(int profile, byte[] full) {
        byte[] right = Rows.row(profile, 8, 0, full);
        for (int place : new int[] {right.length, 70, 99, 100}) {
            DataGuards x = new DataGuards(profile);
            Due.is("plant(0, " + place + ", 129)", x.plant(0, place, 129), 1);
            Rows.give(x, full);
            Due.is("protect(8)", x.protect(8), right.length);
            Due.rowIs("no place " + place, x, right);
        }
    }

    private static void placeOfTheShortestRow(int profile) {
        byte[] right = Rows.row(profile, 8, 0);
        int last = right.length - 1;
        DataGuards x = new DataGuards(profile);
        x.plant(0, last, 1);
        x.protect(8);
        Due.rowIs("the last place", x, Rows.flipped(right, last, 1));
        x.plant(0, last + 1, 1);
        x.protect(8);
        Due.rowIs("the place behind it", x, Rows.row(profile, 8, 1));
        made("a longer row has it no more", x, Rows.row(profile, 8, 2, DATA));
    }

    private static void skipGoesRound() {
        Due.sentence("a SKIP: its COUNTER is so many more before (going round)");
        skipped(1, 0, 14, 14);
        skipped(1, 0, 15, 0);
        skipped(1, 0, 100, 10);
        skipped(1, 14, 0, 14);
        skipped(1, 14, 1, 0);
        skipped(1, 14, 14, 13);
        skipped(1, 14, 15, 14);
        skipped(1, 14, 100, 9);
        skipped(1, 13, 2, 0);
        skipped(2, 155, 100, 255);
        skipped(2, 156, 100, 0);
        skipped(2, 255, 0, 255);
        skipped(2, 255, 1, 0);
        skipped(2, 255, 100, 99);
        skipped(2, 14, 1, 15);
        skipped(3, 155, 100, 255);
        skipped(3, 156, 100, 256);
        skipped(3, 255, 1, 256);
        skipped(3, 500, 100, 600);
    }

    private static void skipped(int profile, int from, int steps, int to) {
        DataGuards x = before(profile, from);
        Due.is("plant(1, " + steps + ", 0)", x.plant(1, steps, 0), 1);
        made("skip of " + steps + " from " + from, x, Rows.row(profile, 8, to, DATA));
        int next = to == Rows.counters(profile) - 1 ? 0 : to + 1;
        Due.is("counter() behind it", x.counter(), next);
        made("no skip behind it", x, Rows.row(profile, 8, next, DATA));
    }

    private static void counterIsTheSenders() {
        Due.sentence("The SENDER's COUNTER.");
        for (int profile = 1; profile <= 3; profile++) {
            DataGuards x = new DataGuards(profile);
            Rows.receiveCounter(x, profile, 9);
            Rows.give(x, DATA);
            x.plant(0, 0, 255);
            Due.is("no row was made", x.counter(), 0);
            x.plant(1, 3, 0);
            Due.is("a skip is planted, no row was made", x.counter(), 0);
            x.protect(65536);
            Due.is("protect was refused", x.counter(), 0);
            x.protect(65535);
            Due.is("behind the row", x.counter(), 4);
        }
        Untouched.by("counter()", DataGuards::counter);
    }

    private static void lowestBitsOfTheMask() {
        Due.sentence("kind = 0 a FLIP of place at by the mask's lowest 8 bits");
        int[] masks = {0, 1, 128, 255, 256, 257, 0xFF00, 0x1FF, -1, -128, -129, -256, LOWEST, LOWEST + 255, HIGHEST};
        for (int profile = 1; profile <= 3; profile++) {
            for (int mask : masks) {
                DataGuards x = new DataGuards(profile);
                Due.is("plant(0, 0, " + mask + ")", x.plant(0, 0, mask), 1);
                made("mask " + mask, x, Rows.flipped(Rows.row(profile, 8, 0, DATA), 0, mask & 255));
            }
        }
    }

    private static void endsOfASkip() {
        Due.sentence("1 a SKIP by at (0 .. 100;");
        for (int profile = 1; profile <= 3; profile++) {
            for (int steps : new int[] {0, 1, 99, 100}) {
                DataGuards x = new DataGuards(profile);
                Due.is("plant(1, " + steps + ", 0)", x.plant(1, steps, 0), 1);
                made("skip of " + steps, x, Rows.row(profile, 8, steps % Rows.counters(profile), DATA));
            }
        }
    }

    private static void maskOfASkip() {
        Due.sentence("the mask does not matter");
        for (int profile = 1; profile <= 3; profile++) {
            for (int mask : new int[] {0, 1, 255, -1, LOWEST, HIGHEST}) {
                DataGuards x = new DataGuards(profile);
                Due.is("plant(1, 2, " + mask + ")", x.plant(1, 2, mask), 1);
                made("a skip with mask " + mask, x, Rows.row(profile, 8, 2, DATA));
                x.plant(0, 2, 9);
                x.plant(1, 2, mask);
                made("the flip keeps its own", x, Rows.flipped(Rows.row(profile, 8, 5, DATA), 2, 9));
            }
        }
    }

    private static void insteadOfOneBefore() {
        Due.sentence("instead of one planted before: 1.");
        for (int profile = 1; profile <= 3; profile++) {
            DataGuards x = new DataGuards(profile);
            x.plant(0, 1, 255);
            Due.is("another flip", x.plant(0, 2, 7), 1);
            made("the later flip alone", x, Rows.flipped(Rows.row(profile, 8, 0, DATA), 2, 7));
            x.plant(0, 2, 255);
            Due.is("the same place", x.plant(0, 2, 1), 1);
            made("the later mask alone", x, Rows.flipped(Rows.row(profile, 8, 1, DATA), 2, 1));
            x.plant(0, 2, 255);
            Due.is("a place that the row has not", x.plant(0, 100, 1), 1);
            made("no flip", x, Rows.row(profile, 8, 2, DATA));
            x.plant(1, 100, 0);
            Due.is("another skip", x.plant(1, 2, 0), 1);
            made("the later skip alone", x, Rows.row(profile, 8, 5, DATA));
            x.plant(1, 100, 0);
            Due.is("a skip of none", x.plant(1, 0, 0), 1);
            made("no skip", x, Rows.row(profile, 8, 6, DATA));
        }
    }

    private static void noSuchKind() {
        Due.sentence("-1 no such kind");
        for (int profile = 1; profile <= 3; profile++) {
            for (int kind : new int[] {-1, 2, 3, -2, 256, 257, LOWEST, HIGHEST}) {
                for (int at : new int[] {0, 1, 100, -1, 101, LOWEST, HIGHEST}) {
                    DataGuards x = new DataGuards(profile);
                    x.plant(0, 1, 6);
                    x.plant(1, 3, 0);
                    Due.is("plant(" + kind + ", " + at + ", 255)", x.plant(kind, at, 255), -1);
                    made("the ones before", x, Rows.flipped(Rows.row(profile, 8, 3, DATA), 1, 6));
                }
            }
        }
    }

    private static void placesOutside() {
        Due.sentence("-2 at is below 0, or above 100.");
        for (int profile = 1; profile <= 3; profile++) {
            for (int at : new int[] {-1, 101, -100, LOWEST, HIGHEST}) {
                DataGuards x = new DataGuards(profile);
                x.plant(0, 1, 6);
                x.plant(1, 3, 0);
                Due.is("plant(0, " + at + ", 255)", x.plant(0, at, 255), -2);
                Due.is("plant(1, " + at + ", 255)", x.plant(1, at, 255), -2);
                made("the ones before", x, Rows.flipped(Rows.row(profile, 8, 3, DATA), 1, 6));
            }
            for (int at : new int[] {0, 100}) {
                DataGuards x = new DataGuards(profile);
                Due.is("plant(0, " + at + ", 255)", x.plant(0, at, 255), 1);
                Due.is("plant(1, " + at + ", 255)", x.plant(1, at, 255), 1);
            }
        }
    }

    private static void made(String what, DataGuards x, byte[] want) {
        Rows.give(x, DATA);
        Due.is(what + ": protect(8)", x.protect(8), want.length);
        Due.rowIs(what, x, want);
    }
}
