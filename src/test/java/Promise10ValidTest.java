public final class Promise10ValidTest {
    public static void main(String[] args) {
        for (int profile = 1; profile <= 3; profile++) {
            countsGoodRows(profile);
            countsBeyondTheLastTen(profile);
        }
        Due.end();
    }

    private static void countsGoodRows(int profile) {
        DataGuards x = new DataGuards(profile);
        Due.is("valid() at first", x.valid(), 0);
        Rows.receiveError(x);
        Due.is("valid() behind ERROR", x.valid(), 0);
        Rows.receiveCounter(x, profile, 3);
        Due.is("valid() behind FIRST", x.valid(), 1);
        Rows.receiveCounter(x, profile, 3);
        Due.is("valid() behind REPEATED", x.valid(), 1);
        Rows.receiveCounter(x, profile, 4);
        Due.is("valid() behind OK", x.valid(), 2);
        Rows.receiveCounter(x, profile, 6);
        Due.is("valid() behind SOME LOST by 2", x.valid(), 3);
        Rows.receiveCounter(x, profile, 9);
        Due.is("valid() behind SOME LOST by 3", x.valid(), 4);
        Rows.receiveCounter(x, profile, 13);
        Due.is("valid() behind WRONG SEQUENCE", x.valid(), 4);
        x.check(9, (byte) 0, false);
        x.check(-1, (byte) 0, true);
        x.protect(9);
        Due.is("valid() amid a row", x.valid(), 4);
    }

    private static void countsBeyondTheLastTen(int profile) {
        DataGuards x = new DataGuards(profile);
        for (int i = 0; i < 60; i++) {
            Rows.receiveCounter(x, profile, i % Rows.counters(profile));
            Due.is("valid()", x.valid(), i + 1);
        }
    }
}
