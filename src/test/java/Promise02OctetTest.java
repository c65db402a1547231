import java.util.Arrays;

public final class Promise02OctetTest {
    public static void main(String[] args) {
        for (int profile = 1; profile <= 3; profile++) {
            for (int count : new int[] {0, 1, 2, 63, 64, 65, 66, 200}) {
                keepsAtMost64(profile, count);
            }
            keepsEveryValue(profile);
        }
        Due.end();
    }

    private static void keepsAtMost64(int profile, int count) {
        DataGuards x = new DataGuards(profile);
        byte[] data = Rows.rising(count, 100);
        Rows.give(x, data);
        byte[] want = Rows.row(profile, 3, 0, Arrays.copyOf(data, Math.min(count, 64)));
        Due.is(count + " octets: protect(3)", x.protect(3), want.length);
        Due.rowIs(count + " octets", x, want);
        x.octet((byte) 7);
        x.protect(3);
        Due.rowIs("an octet behind " + count, x, Rows.row(profile, 3, 1, (byte) 7));
    }

    private static void keepsEveryValue(int profile) {
        DataGuards x = new DataGuards(profile);
        byte[] edges = Rows.octets(0, 1, 127, 128, 254, 255);
        Rows.give(x, edges);
        x.protect(3);
        Due.rowIs("the edges of an octet", x, Rows.row(profile, 3, 0, edges));
    }
}
