public final class Promise09PlantTest {
    private static final byte[] DATA = Rows.octets(10, 20, 255);

    public static void main(String[] args) {
        for (int profile = 1; profile <= 3; profile++) {
            flipsEveryPlace(profile);
            flipsByTheLowestBits(profile);
            skipsGoingRound(profile);
            faultsAreForTheNextRowAlone(profile);
            laterOnesStandInstead(profile);
            bothKindsAtOnce(profile);
            refusals(profile);
        }
        Due.end();
    }

    private static void flipsEveryPlace(int profile) {
        byte[] right = Rows.row(profile, 8, 0, DATA);
        for (int place = 0; place <= 100; place++) {
            DataGuards x = new DataGuards(profile);
            Due.is("plant(0, " + place + ", 165)", x.plant(0, place, 165), 1);
            made("flip at " + place, x, place < right.length ? Rows.flipped(right, place, 165) : right);
            made("none behind it", x, Rows.row(profile, 8, 1, DATA));
        }
    }

    private static void flipsByTheLowestBits(int profile) {
        int[] masks = {0, 1, 128, 255, 256, 257, -1, -256, Integer.MIN_VALUE, Integer.MAX_VALUE};
        for (int mask : masks) {
            DataGuards x = new DataGuards(profile);
            Due.is("plant(0, 0, " + mask + ")", x.plant(0, 0, mask), 1);
            made("mask " + mask, x, Rows.flipped(Rows.row(profile, 8, 0, DATA), 0, mask & 255));
        }
    }

    private static void skipsGoingRound(int profile) {
        int counters = Rows.counters(profile);
        for (int steps : new int[] {0, 1, 2, 13, 14, 15, 16, 99, 100}) {
            DataGuards x = new DataGuards(profile);
            int counter = 0;
            for (int row = 0; row < 6; row++) {
                Due.is("plant(1, " + steps + ", 77)", x.plant(1, steps, 77), 1);
                counter = (counter + steps) % counters;
                made("skip by " + steps, x, Rows.row(profile, 8, counter, DATA));
                counter = (counter + 1) % counters;
                Due.is("counter()", x.counter(), counter);
            }
        }
    }

    private static void faultsAreForTheNextRowAlone(int profile) {
        DataGuards x = new DataGuards(profile);
        x.plant(0, 2, 3);
        x.plant(1, 2, 0);
        x.protect(8);
        made("the row behind it", x, Rows.row(profile, 8, 3, DATA));
        // A place that the row does not have is not kept for a longer one.
        x.plant(0, 12, 3);
        x.protect(8);
        Rows.give(x, Rows.rising(30, 0));
        x.protect(8);
        Due.rowIs("a longer row", x, Rows.row(profile, 8, 5, Rows.rising(30, 0)));
    }

    private static void laterOnesStandInstead(int profile) {
        DataGuards x = new DataGuards(profile);
        x.plant(0, 0, 255);
        x.plant(0, 3, 6);
        x.plant(1, 9, 0);
        x.plant(1, 2, 0);
        made("the later ones", x, Rows.flipped(Rows.row(profile, 8, 2, DATA), 3, 6));
        x.plant(0, 0, 255);
        x.plant(0, 0, 0);
        x.plant(1, 9, 0);
        x.plant(1, 0, 0);
        made("none instead", x, Rows.row(profile, 8, 3, DATA));
    }

    private static void bothKindsAtOnce(int profile) {
        DataGuards x = new DataGuards(profile);
        x.plant(1, 4, 0);
        x.plant(0, 1, 9);
        made("skip, then flip", x, Rows.flipped(Rows.row(profile, 8, 4, DATA), 1, 9));
        x.plant(0, 0, 9);
        x.plant(1, 3, 0);
        made("flip, then skip", x, Rows.flipped(Rows.row(profile, 8, 8, DATA), 0, 9));
    }

    private static void refusals(int profile) {
        DataGuards x = new DataGuards(profile);
        x.plant(0, 1, 6);
        x.plant(1, 2, 0);
        for (int kind : new int[] {-1, 2, 3, Integer.MIN_VALUE, Integer.MAX_VALUE}) {
            Due.is("plant(" + kind + ", 1, 1)", x.plant(kind, 1, 1), -1);
            Due.is("plant(" + kind + ", -1, 1)", x.plant(kind, -1, 1), -1);
            Due.is("plant(" + kind + ", 101, 1)", x.plant(kind, 101, 1), -1);
        }
        for (int at : new int[] {-1, 101, Integer.MIN_VALUE, Integer.MAX_VALUE}) {
            Due.is("plant(0, " + at + ", 1)", x.plant(0, at, 1), -2);
            Due.is("plant(1, " + at + ", 1)", x.plant(1, at, 1), -2);
        }
        Due.is("counter()", x.counter(), 0);
        made("the ones before", x, Rows.flipped(Rows.row(profile, 8, 2, DATA), 1, 6));
    }

    private static void made(String what, DataGuards x, byte[] want) {
        Rows.give(x, DATA);
        Due.is(what + ": protect(8)", x.protect(8), want.length);
        Due.rowIs(what, x, want);
    }
}
