/** The boundary cases of rows, octet, protect and out, a sentence of the document each. */
public final class EdgesOfRowsTest {
    private static final int LOWEST = Integer.MIN_VALUE;
    private static final int HIGHEST = Integer.MAX_VALUE;
    private static final int[] LONGEST = {66, 67, 70};
    private static final int[] SHORTEST = {2, 3, 6};

    public static void main(String[] args) {
        identitiesOfARow();
        lengthsOfData();
        octetsOfTheCounter();
        octetsOfTheCheck();
        octetsOfTheIdentity();
        lostIfThereAre64();
        dataIsGoneThen();
        lengthIsAnswered();
        noIdentity();
        placesOfTheLastRow();
        beforeAndBehind();
        allIfThereWasNone();
        Due.end();
    }

    private static void identitiesOfARow() {
        Due.sentence("A ROW of an IDENTITY (0 .. 65535)");
        for (int profile = 1; profile <= 3; profile++) {
            for (int identity : new int[] {0, 1, 255, 256, 32767, 32768, 65534, 65535}) {
                DataGuards x = new DataGuards(profile);
                byte[] want = Rows.row(profile, identity, 0);
                Due.is("protect(" + identity + ")", x.protect(identity), want.length);
                Due.rowIs("protect(" + identity + ")", x, want);
                Due.is("check of it", Rows.receive(x, identity, want), 5);
            }
        }
    }

    private static void lengthsOfData() {
        Due.sentence("and 0 to 64 octets of data");
        for (int profile = 1; profile <= 3; profile++) {
            for (int count : new int[] {0, 1, 63, 64}) {
                DataGuards x = new DataGuards(profile);
                byte[] want = Rows.row(profile, 7, 0, Rows.rising(count, 200));
                Rows.give(x, Rows.rising(count, 200));
                Due.is(count + " octets: protect(7)", x.protect(7), SHORTEST[profile - 1] + count);
                Due.rowIs(count + " octets", x, want);
                Due.is(count + " octets: check of it", Rows.receive(x, 7, want), 5);
            }
        }
    }

    private static void octetsOfTheCounter() {
        Due.sentence("one octet of the COUNTER (two in profile 3, the higher one first)");
        DataGuards one = counterAt(1, 14);
        Due.is("profile 1, 14: out(0)", one.out(0), 14);
        DataGuards two = counterAt(2, 255);
        Due.is("profile 2, 255: out(0)", two.out(0), -1);
        for (int counter : new int[] {0, 1, 255, 256, 258, 511, 512}) {
            DataGuards three = counterAt(3, counter);
            Due.is("profile 3, " + counter + ": out(0)", three.out(0), counter >> 8);
            Due.is("profile 3, " + counter + ": out(1)", three.out(1), (byte) counter);
        }
    }

    /** An object whose last row, without data, has this counter. */
    private static DataGuards counterAt(int profile, int counter) {
        DataGuards x = new DataGuards(profile);
        while (counter - x.counter() > 100) {
            x.plant(1, 99, 0);
            x.protect(7);
        }
        x.plant(1, counter - x.counter(), 0);
        Due.is("a row without data", x.protect(7), SHORTEST[profile - 1]);
        return x;
    }

    private static void octetsOfTheCheck() {
        Due.sentence("the data, then the CHECK, the highest octet first");
        for (int profile = 1; profile <= 3; profile++) {
            DataGuards x = new DataGuards(profile);
            x.octet((byte) 77);
            int length = x.protect(7);
            byte[] before = profile == 3 ? Rows.octets(0, 0, 77) : Rows.octets(0, 77);
            Due.is("the data", x.out(before.length - 1), 77);
            long check = 0;
            for (int i = before.length; i < length; i++) {
                check = check << 8 | x.out(i) & 255;
            }
            Due.is("the check", check, Rows.check(profile, 7, before));
        }
    }

    private static void octetsOfTheIdentity() {
        Due.sentence("of the IDENTITY's two octets, the higher one first, and all in the ROW before it");
        for (int profile = 1; profile <= 3; profile++) {
            for (int identity : new int[] {0x0100, 0x0001, 0x0102, 0x0201, 0xFF00, 0x00FF, 0x8000, 0x0080}) {
                DataGuards x = new DataGuards(profile);
                x.octet((byte) 1);
                x.protect(identity);
                Due.rowIs("identity " + identity, x, Rows.row(profile, identity, 0, (byte) 1));
            }
            everythingBeforeIsChecked(profile);
        }
    }

    private static void everythingBeforeIsChecked(int profile) {
        byte[] data = Rows.rising(64, 0);
        DataGuards x = new DataGuards(profile);
        for (int place : new int[] {0, 63}) {
            data[place] ^= 64;
            Rows.give(x, data);
            int counter = x.counter();
            x.protect(7);
            Due.rowIs("data changed at " + place, x, Rows.row(profile, 7, counter, data));
        }
    }

    private static void lostIfThereAre64() {
        Due.sentence("An octet of data more for the SENDER; lost if there are 64.");
        for (int profile = 1; profile <= 3; profile++) {
            for (int lost : new int[] {1, 2, 7, 190}) {
                DataGuards x = new DataGuards(profile);
                Rows.give(x, Rows.rising(64 + lost, 5));
                Due.is("protect(7)", x.protect(7), LONGEST[profile - 1]);
                Due.rowIs(lost + " lost", x, Rows.row(profile, 7, 0, Rows.rising(64, 5)));
                Rows.give(x, Rows.octets(1, 2));
                x.protect(7);
                Due.rowIs("room again", x, Rows.row(profile, 7, 1, Rows.octets(1, 2)));
            }
            keptUpTo64(profile);
        }
        Untouched.by("octets beyond 64", Past.FULL, x -> Rows.give(x, Rows.octets(99, 0, -1)));
    }

    private static void keptUpTo64(int profile) {
        DataGuards x = new DataGuards(profile);
        Rows.give(x, Rows.rising(63, 5));
        x.octet((byte) 200);
        x.octet((byte) 201);
        x.protect(7);
        int last = Rows.counterOctets(profile) + 63;
        Due.is("the 64th is kept", x.out(last), (byte) 200);
        Due.is("no 65th", x.out(last + 1), (byte) (Rows.check(profile, 7, before(x, last + 1)) >> Rows.bits(profile) - 8));
    }

    private static byte[] before(DataGuards x, int count) {
        byte[] before = new byte[count];
        for (int i = 0; i < count; i++) {
            before[i] = x.out(i);
        }
        return before;
    }

    private static void dataIsGoneThen() {
        Due.sentence("A ROW of the data, which is gone then");
        for (int profile = 1; profile <= 3; profile++) {
            for (int count : new int[] {1, 64, 65}) {
                DataGuards x = new DataGuards(profile);
                Rows.give(x, Rows.rising(count, 5));
                x.protect(7);
                Due.is("without data: protect(7)", x.protect(7), SHORTEST[profile - 1]);
                Due.rowIs("without data", x, Rows.row(profile, 7, 1));
                Rows.give(x, Rows.rising(64, 9));
                Due.is("full again: protect(7)", x.protect(7), LONGEST[profile - 1]);
                Due.rowIs("full again", x, Rows.row(profile, 7, 2, Rows.rising(64, 9)));
            }
        }
    }

    private static void lengthIsAnswered() {
        Due.sentence("how many octets it has");
        for (int profile = 1; profile <= 3; profile++) {
            DataGuards x = new DataGuards(profile);
            Due.is("the shortest row", x.protect(0), SHORTEST[profile - 1]);
            Due.outThrows("behind the shortest row", x, SHORTEST[profile - 1]);
            Rows.give(x, Rows.rising(64, 0));
            Due.is("the longest row", x.protect(65535), LONGEST[profile - 1]);
            Due.outThrows("behind the longest row", x, LONGEST[profile - 1]);
        }
    }

    private static void noIdentity() {
        Due.sentence("-2 the IDENTITY is none.");
        for (int profile = 1; profile <= 3; profile++) {
            for (int identity : new int[] {-1, 65536, -65536, 131071, LOWEST, HIGHEST}) {
                DataGuards x = new DataGuards(profile);
                Rows.give(x, Rows.rising(64, 0));
                x.plant(0, 0, 3);
                x.plant(1, 2, 0);
                Due.is("protect(" + identity + ")", x.protect(identity), -2);
                Due.is("counter() behind it", x.counter(), 0);
                Due.outThrows("no row behind it", x, 0);
                Due.is("protect(7)", x.protect(7), LONGEST[profile - 1]);
                byte[] right = Rows.row(profile, 7, 2, Rows.rising(64, 0));
                Due.rowIs("data and faults are kept", x, Rows.flipped(right, 0, 3));
            }
        }
    }

    private static void placesOfTheLastRow() {
        Due.sentence("Octet i of the last ROW made.");
        for (int profile = 1; profile <= 3; profile++) {
            DataGuards x = new DataGuards(profile);
            Rows.give(x, Rows.rising(64, 128));
            x.protect(7);
            byte[] made = Rows.row(profile, 7, 0, Rows.rising(64, 128));
            Due.is("the first octet", x.out(0), made[0]);
            Due.is("the last octet", x.out(made.length - 1), made[made.length - 1]);
            Rows.give(x, Rows.octets(1, 2, 3));
            x.plant(0, 0, 255);
            x.protect(-1);
            Due.rowIs("still the last row", x, made);
        }
        Untouched.by("out", x -> {
            for (int i = -2; i < 72; i++) {
                Due.outOrThrown(x, i);
            }
        });
    }

    private static void beforeAndBehind() {
        Due.sentence("ArrayIndexOutOfBoundsException before and behind it");
        for (int profile = 1; profile <= 3; profile++) {
            DataGuards x = new DataGuards(profile);
            Rows.give(x, Rows.rising(64, 1));
            x.protect(7);
            for (int i : new int[] {-1, LONGEST[profile - 1], 70, 71, LOWEST, HIGHEST}) {
                Due.outThrows("the longest row", x, i);
            }
            x.protect(7);
            for (int i : new int[] {-1, SHORTEST[profile - 1], 7, 64, 65, 69, 70, -SHORTEST[profile - 1], LOWEST, HIGHEST}) {
                Due.outThrows("the shortest row", x, i);
            }
            Due.rowIs("and all of it is there", x, Rows.row(profile, 7, 1));
        }
    }

    private static void allIfThereWasNone() {
        Due.sentence("(all, if there was none)");
        for (int profile = 1; profile <= 3; profile++) {
            DataGuards x = new DataGuards(profile);
            Rows.give(x, Rows.rising(64, 1));
            x.plant(0, 1, 1);
            x.protect(65536);
            Rows.receiveCounter(x, profile, 3);
            for (int i = -2; i <= 71; i++) {
                Due.outThrows("no row", x, i);
            }
            Due.outThrows("no row", x, LOWEST);
            Due.outThrows("no row", x, HIGHEST);
        }
    }
}
