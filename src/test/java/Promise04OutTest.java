public final class Promise04OutTest {
    public static void main(String[] args) {
        for (int profile = 1; profile <= 3; profile++) {
            throwsBeforeTheFirstRow(profile);
            answersTheLastRow(profile);
        }
        Due.end();
    }

    private static void throwsBeforeTheFirstRow(int profile) {
        DataGuards x = new DataGuards(profile);
        x.octet((byte) 1);
        x.protect(-1);
        for (int i : new int[] {-1, 0, 1, 69, 70, Integer.MIN_VALUE, Integer.MAX_VALUE}) {
            Due.outThrows("no row", x, i);
        }
    }

    private static void answersTheLastRow(int profile) {
        DataGuards x = new DataGuards(profile);
        Rows.give(x, Rows.rising(64, 128));
        x.protect(1);
        Due.rowIs("a long row", x, Rows.row(profile, 1, 0, Rows.rising(64, 128)));
        Rows.give(x, Rows.octets(255));
        Due.rowIs("with new data", x, Rows.row(profile, 1, 0, Rows.rising(64, 128)));
        x.protect(2);
        byte[] want = Rows.row(profile, 2, 1, Rows.octets(255));
        Due.rowIs("a short row behind it", x, want);
        for (int i : new int[] {want.length + 1, 65, 69, 70, 71, -70, Integer.MIN_VALUE, Integer.MAX_VALUE}) {
            Due.outThrows("outside of the short row", x, i);
        }
        Due.rowIs("asked again", x, want);
    }
}
