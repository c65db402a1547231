public final class Promise12ToldTest {
    public static void main(String[] args) {
        for (int profile = 1; profile <= 3; profile++) {
            remembersEverything(profile);
            remembersBeyondTheLastTen(profile);
        }
        Due.end();
    }

    private static void remembersEverything(int profile) {
        DataGuards x = new DataGuards(profile);
        toldIs(x, "");
        x.check(9, (byte) 0, false);
        x.check(-1, (byte) 0, true);
        toldIs(x, "");
        Rows.receive(x, 9, (byte) 1);
        toldIs(x, "4");
        Rows.receiveCounter(x, profile, 3);
        toldIs(x, "45");
        Rows.receiveCounter(x, profile, 3);
        toldIs(x, "451");
        Rows.receiveCounter(x, profile, 5);
        toldIs(x, "4512");
        Rows.receiveCounter(x, profile, 6);
        toldIs(x, "45120");
        Rows.receiveCounter(x, profile, 12);
        toldIs(x, "451203");
    }

    private static void remembersBeyondTheLastTen(int profile) {
        DataGuards x = new DataGuards(profile);
        for (int i = 0; i < 30; i++) {
            Rows.receiveCounter(x, profile, i % Rows.counters(profile));
        }
        toldIs(x, "50");
    }

    private static void toldIs(DataGuards x, String found) {
        for (int i = 0; i <= 5; i++) {
            Due.is("found " + found + ", told(" + i + ")", x.told(i), found.indexOf('0' + i) >= 0);
        }
        for (int i : new int[] {-1, 6, 7, 31, 32, 36, 37, 64, -28, -32, Integer.MIN_VALUE, Integer.MAX_VALUE}) {
            Due.is("found " + found + ", told(" + i + ")", x.told(i), false);
        }
    }
}
