/** An object is right up to its last call, its 512th. */
public final class EdgesOfCallsTest {
    private static final int CALLS = 512;

    public static void main(String[] args) {
        Due.sentence("An object is used for at most 512 calls after it has been made");
        for (int profile = 1; profile <= 3; profile++) {
            rowsMade(profile);
            rowsFound(profile);
            octetsCollected(profile);
            octetsLost(profile);
            timesTold(profile);
        }
        Due.end();
    }

    private static void rowsMade(int profile) {
        DataGuards x = new DataGuards(profile);
        for (int call = 1; call < CALLS; call++) {
            x.protect(7);
        }
        Due.is("counter() behind 511 rows", x.counter(), (CALLS - 1) % Rows.counters(profile));
        DataGuards y = new DataGuards(profile);
        for (int skips = 0; skips < 255; skips++) {
            y.plant(1, 100, 0);
            y.protect(7);
        }
        Due.is("counter() behind 255 skips", y.counter(), 255 * 101 % Rows.counters(profile));
    }

    private static void rowsFound(int profile) {
        DataGuards x = new DataGuards(profile);
        for (int call = 1; call < CALLS; call++) {
            Due.is("a row of one octet", x.check(7, (byte) call, true), 4);
        }
        Due.is("span(9) behind 511 rows", x.span(9), 4);
        DataGuards y = new DataGuards(profile);
        int length = Rows.row(profile, 9, 0).length;
        int rows = (CALLS - 1) / length;
        for (int row = 0; row < rows; row++) {
            Rows.receiveCounter(y, profile, row % Rows.counters(profile));
        }
        Due.is("valid() behind all that go", y.valid(), rows);
    }

    private static void octetsCollected(int profile) {
        DataGuards x = new DataGuards(profile);
        for (int call = 1; call < CALLS; call++) {
            Due.is("octet " + call, x.check(7, (byte) 0, false), 0);
        }
        Due.is("a row of 512 octets", x.check(7, (byte) 0, true), 4);
    }

    private static void octetsLost(int profile) {
        DataGuards x = new DataGuards(profile);
        Rows.give(x, Rows.rising(CALLS - 1, 0));
        Due.is("protect(7) behind 511 octets", x.protect(7), new int[] {66, 67, 70}[profile - 1]);
    }

    private static void timesTold(int profile) {
        DataGuards x = new DataGuards(profile);
        for (int t = 0; t < CALLS; t++) {
            Due.is("react(" + t + ")", x.react(t), t < 100 ? 0 : 1);
        }
    }
}
