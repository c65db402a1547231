public final class Promise03ProtectTest {
    public static void main(String[] args) {
        hasPublishedChecks();
        for (int profile = 1; profile <= 3; profile++) {
            takesEveryIdentity(profile);
            refusesOthersAndChangesNothing(profile);
            dataIsGoneThen(profile);
            longestRow(profile);
        }
        Due.end();
    }

    /** Published vectors of the polynomials of 8 and 16 bits. */
    private static void hasPublishedChecks() {
        published(1, 0x0000, Rows.octets(0x00), Rows.octets(0, 0x00, 0x59));
        published(1, 0x0FAA, Rows.octets(0x55), Rows.octets(0, 0x55, 0x79));
        published(2, 0x0000, Rows.octets(0x00), Rows.octets(0, 0x00, 0x84, 0xC0));
        published(2, 0x0FAA, Rows.octets(0x55), Rows.octets(0, 0x55, 0x20, 0x23));
        DataGuards x = new DataGuards(2);
        x.plant(1, '3', 0);
        Rows.give(x, Rows.octets('4', '5', '6', '7', '8', '9'));
        Due.is("'123456789'", x.protect('1' << 8 | '2'), 9);
        Due.rowIs("'123456789'", x, Rows.octets('3', '4', '5', '6', '7', '8', '9', 0x29, 0xB1));
    }

    private static void published(int profile, int identity, byte[] data, byte[] want) {
        DataGuards x = new DataGuards(profile);
        Rows.give(x, data);
        Due.is("published row: protect(" + identity + ")", x.protect(identity), want.length);
        Due.rowIs("published row of profile " + profile, x, want);
    }

    private static void takesEveryIdentity(int profile) {
        DataGuards x = new DataGuards(profile);
        int counter = 0;
        for (int identity : new int[] {0, 1, 255, 256, 4660, 32768, 65534, 65535}) {
            Rows.give(x, Rows.octets(identity, 200));
            byte[] want = Rows.row(profile, identity, counter, Rows.octets(identity, 200));
            Due.is("protect(" + identity + ")", x.protect(identity), want.length);
            Due.rowIs("protect(" + identity + ")", x, want);
            counter++;
        }
    }

    private static void refusesOthersAndChangesNothing(int profile) {
        DataGuards x = new DataGuards(profile);
        Rows.give(x, Rows.octets(1));
        x.protect(6);
        Rows.give(x, Rows.octets(2, 3));
        x.plant(0, Rows.counterOctets(profile), 255);
        x.plant(1, 4, 0);
        for (int identity : new int[] {-1, 65536, Integer.MIN_VALUE, Integer.MAX_VALUE}) {
            Due.is("protect(" + identity + ")", x.protect(identity), -2);
            Due.is("counter() behind it", x.counter(), 1);
            Due.rowIs("behind it", x, Rows.row(profile, 6, 0, (byte) 1));
        }
        x.protect(6);
        byte[] made = Rows.row(profile, 6, 5, Rows.octets(2, 3));
        Due.rowIs("data and faults kept", x, Rows.flipped(made, Rows.counterOctets(profile), 255));
    }

    private static void dataIsGoneThen(int profile) {
        DataGuards x = new DataGuards(profile);
        Rows.give(x, Rows.octets(1, 2, 3));
        x.protect(5);
        byte[] want = Rows.row(profile, 5, 1);
        Due.is("protect(5) without data", x.protect(5), want.length);
        Due.rowIs("without data", x, want);
    }

    private static void longestRow(int profile) {
        DataGuards x = new DataGuards(profile);
        Rows.give(x, Rows.rising(64, 0));
        Due.is("the longest row", x.protect(1), new int[] {66, 67, 70}[profile - 1]);
    }
}
