public final class Promise11ReactTest {
    public static void main(String[] args) {
        withoutARow();
        refusesTimesThatGoBack();
        for (int profile = 1; profile <= 3; profile++) {
            goodRowsBeginAnew(profile);
            otherRowsDoNot(profile);
            invalidReactsAtOnce(profile);
        }
        longTimes();
        Due.end();
    }

    private static void withoutARow() {
        DataGuards x = new DataGuards(1);
        tell(x, 0, 0);
        tell(x, 99, 0);
        tell(x, 99, 0);
        tell(x, 100, 1);
        tell(x, 100, 1);
        tell(x, 5000, 1);
        tell(new DataGuards(1), 100, 1);
        tell(new DataGuards(1), 99, 0);
    }

    private static void refusesTimesThatGoBack() {
        DataGuards x = new DataGuards(1);
        tell(x, -1, -2);
        tell(x, Long.MIN_VALUE, -2);
        tell(x, 50, 0);
        tell(x, 49, -2);
        tell(x, 0, -2);
        tell(x, -1, -2);
        tell(x, 50, 0);
        // A refused time is not told: a row behind it still came at 50.
        tell(x, 10, -2);
        Rows.receiveCounter(x, 1, 0);
        tell(x, 149, 0);
        tell(x, 150, 1);
    }

    private static void goodRowsBeginAnew(int profile) {
        DataGuards x = new DataGuards(profile);
        Rows.receiveCounter(x, profile, 0);
        tell(x, 99, 0);
        tell(x, 100, 1);
        Rows.receiveCounter(x, profile, 1);
        tell(x, 199, 0);
        tell(x, 200, 1);
        Rows.receiveCounter(x, profile, 3);
        tell(x, 299, 0);
        Rows.receiveCounter(x, profile, 6);
        tell(x, 398, 0);
        tell(x, 399, 1);
        tell(x, 1000, 1);
        Rows.receiveCounter(x, profile, 7);
        tell(x, 1099, 0);
        tell(x, 1100, 1);
        firstRowLate(profile);
    }

    private static void firstRowLate(int profile) {
        DataGuards x = new DataGuards(profile);
        tell(x, 70, 0);
        Rows.receiveCounter(x, profile, 5);
        tell(x, 169, 0);
        tell(x, 170, 1);
    }

    private static void otherRowsDoNot(int profile) {
        DataGuards x = new DataGuards(profile);
        Rows.receiveCounter(x, profile, 0);
        tell(x, 60, 0);
        Rows.receiveCounter(x, profile, 0);
        Rows.receiveCounter(x, profile, 6);
        Rows.receiveError(x);
        x.check(9, (byte) 0, false);
        x.check(-1, (byte) 0, true);
        tell(x, 99, 0);
        tell(x, 100, 1);
    }

    private static void invalidReactsAtOnce(int profile) {
        DataGuards x = new DataGuards(profile);
        Rows.receiveError(x);
        Rows.receiveError(x);
        tell(x, 1, 0);
        Rows.receiveError(x);
        tell(x, 1, 1);
        tell(x, 0, -2);
        for (int i = 0; i < 7; i++) {
            Rows.receiveCounter(x, profile, i);
            tell(x, 2 + i, 1);
        }
        Rows.receiveCounter(x, profile, 7);
        tell(x, 10, 0);
        tell(x, 107, 0);
        tell(x, 108, 1);
    }

    private static void longTimes() {
        DataGuards x = new DataGuards(1);
        tell(x, Long.MAX_VALUE - 100, 1);
        Rows.receiveCounter(x, 1, 0);
        tell(x, Long.MAX_VALUE - 1, 0);
        tell(x, Long.MAX_VALUE, 1);
        tell(x, Long.MAX_VALUE - 1, -2);
        DataGuards y = new DataGuards(1);
        Rows.receiveCounter(y, 1, 0);
        tell(y, 1L << 32, 1);
        tell(y, 5, -2);
    }

    private static void tell(DataGuards x, long t, int due) {
        Due.is("react(" + t + ")", x.react(t), due);
    }
}
