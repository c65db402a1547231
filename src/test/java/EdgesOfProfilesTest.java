/** The boundary cases of the profiles, of a new object and of polynomial, a sentence of the document each. */
public final class EdgesOfProfilesTest {
    private static final int LOWEST = Integer.MIN_VALUE;
    private static final int HIGHEST = Integer.MAX_VALUE;

    public static void main(String[] args) {
        anyOtherNumber();
        countersTo14();
        countersTo255();
        countersTo65535();
        atFirstTheBegin();
        highestBitFirst();
        atTheEndTheEnd();
        bitsThatAreNone();
        Due.end();
    }

    private static void anyOtherNumber() {
        Due.sentence("A PROFILE (1 .. 3; 1 for any other number).");
        for (int number : new int[] {1, 2, 3, 0, 4, -1, -2, -3, 5, 8, 16, 32, 256 + 2, 65536 + 3, LOWEST + 2, LOWEST, HIGHEST}) {
            int profile = number == 2 || number == 3 ? number : 1;
            DataGuards x = new DataGuards(number);
            byte[] want = Rows.row(profile, 4660, 0);
            Due.is(number + ": protect(4660)", x.protect(4660), want.length);
            Due.rowIs("profile " + number, x, want);
            Due.is(number + ": its own row", Rows.receive(x, 4660, want), 5);
        }
    }

    private static void countersTo14() {
        Due.sentence("1: a check of 8 bits, shape 29, begin and end 255, COUNTERS 0 .. 14.");
        DataGuards x = new DataGuards(1);
        for (int counter : new int[] {0, 13, 14}) {
            Due.is("counter " + counter, Rows.receiveCounter(new DataGuards(1), 1, counter), 5);
        }
        for (int counter : new int[] {15, 16, 255}) {
            Due.is("counter " + counter, Rows.receiveCounter(x, 1, counter), 4);
        }
        sentAs(1, new int[] {14, 0}, 14);
    }

    private static void countersTo255() {
        Due.sentence("2: 16 bits, shape 4129, begin 65535, end 0, COUNTERS 0 .. 255.");
        for (int counter : new int[] {0, 14, 15, 254, 255}) {
            Due.is("counter " + counter, Rows.receiveCounter(new DataGuards(2), 2, counter), 5);
        }
        sentAs(2, new int[] {100, 100, 53, 0}, 100, 201, 255);
    }

    private static void countersTo65535() {
        Due.sentence("3: 32 bits, shape -189989101, begin and end -1, COUNTERS 0 .. 65535.");
        for (int counter : new int[] {0, 255, 256, 32767, 32768, 65534, 65535}) {
            Due.is("counter " + counter, Rows.receiveCounter(new DataGuards(3), 3, counter), 5);
        }
        // 512 calls do not take a sender to its last counter here, but far beyond one octet.
        sentAs(3, new int[] {100, 100, 53, 0, 0, 100}, 100, 201, 255, 256, 257, 358);
    }

    /** Rows made with these skips have these counters, with 0 behind the last of them, if one skip is left. */
    private static void sentAs(int profile, int[] skips, int... counters) {
        DataGuards x = new DataGuards(profile);
        for (int i = 0; i < skips.length; i++) {
            int counter = i < counters.length ? counters[i] : 0;
            x.plant(1, skips[i], 0);
            x.protect(9);
            Due.rowIs("counter " + counter, x, Rows.row(profile, 9, counter));
        }
    }

    /** Published checks of four octets of 0: the begin alone makes them other than the end. */
    private static void atFirstTheBegin() {
        Due.sentence("a register of that many bits, at first the begin");
        int[][] published = {{0, 0x00, 0x59}, {0, 0x00, 0x84, 0xC0}};
        for (int profile = 1; profile <= 2; profile++) {
            DataGuards x = new DataGuards(profile);
            x.octet((byte) 0);
            x.protect(0);
            Due.rowIs("four octets of 0", x, Rows.octets(published[profile - 1]));
        }
    }

    private static void highestBitFirst() {
        Due.sentence("its bits, the highest first, are each xor the highest bit of the register");
        for (int profile = 1; profile <= 3; profile++) {
            DataGuards x = new DataGuards(profile);
            for (int bit = 0; bit < 8; bit++) {
                int counter = x.counter();
                x.octet((byte) (1 << bit));
                x.protect(0);
                Due.rowIs("bit " + bit + " alone", x, Rows.row(profile, 0, counter, (byte) (1 << bit)));
            }
        }
    }

    /** As many 1 bits as the register has empty it, 0 bits keep it empty: the check is the end alone. */
    private static void atTheEndTheEnd() {
        Due.sentence("At the end it is xor the end.");
        byte[] one = Rows.octets(0, 255);
        Due.is("profile 1, identity 255 and 0", Rows.receive(new DataGuards(1), 0xFF00, one), 5);
        byte[] two = Rows.octets(0, 0, 0);
        Due.is("profile 2, identity 65535", Rows.receive(new DataGuards(2), 65535, two), 5);
        byte[] three = Rows.octets(255, 255, 255, 255, 255, 255);
        Due.is("profile 3, identity and counter 65535", Rows.receive(new DataGuards(3), 65535, three), 5);
    }

    private static void bitsThatAreNone() {
        Due.sentence("29, 4129, -189989101 for 8, 16, 32. -1 for others.");
        for (int profile = 1; profile <= 3; profile++) {
            DataGuards x = new DataGuards(profile);
            Due.is("polynomial(8)", x.polynomial(8), 29);
            Due.is("polynomial(16)", x.polynomial(16), 4129);
            Due.is("polynomial(32)", x.polynomial(32), -189989101);
            for (int bits : new int[] {0, 1, 2, 3, 7, 9, 15, 17, 24, 31, 33, 64, -8, -16, -32, 256 + 8, LOWEST + 8, LOWEST, HIGHEST}) {
                Due.is("polynomial(" + bits + ")", x.polynomial(bits), -1);
            }
        }
        Untouched.by("polynomial", x -> {
            x.polynomial(8);
            x.polynomial(9);
        });
    }
}
