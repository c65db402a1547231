public final class Promise01NewObjectTest {
    public static void main(String[] args) {
        int[] numbers = {1, 2, 3, 0, 4, -1, 257, Integer.MIN_VALUE, Integer.MAX_VALUE};
        for (int number : numbers) {
            int profile = number == 2 || number == 3 ? number : 1;
            isEmpty(number);
            makesRowsOf(number, profile);
            goesRound(number, profile);
            receivesRowsOf(number, profile);
        }
        Due.end();
    }

    private static void isEmpty(int number) {
        DataGuards x = new DataGuards(number);
        String what = "new object of " + number;
        Due.is(what + ": counter()", x.counter(), 0);
        Due.is(what + ": state()", x.state(), 0);
        Due.is(what + ": valid()", x.valid(), 0);
        Due.is(what + ": span(0)", x.span(0), -1);
        Due.outThrows(what, x, 0);
        for (int i = -1; i <= 6; i++) {
            Due.is(what + ": told(" + i + ")", x.told(i), false);
        }
        Due.is(what + ": react(0)", x.react(0), 0);
    }

    private static void makesRowsOf(int number, int profile) {
        DataGuards x = new DataGuards(number);
        byte[] want = Rows.row(profile, 4660, 0);
        Due.is(number + ": protect(4660)", x.protect(4660), want.length);
        Due.rowIs("profile " + number, x, want);
    }

    private static void goesRound(int number, int profile) {
        if (profile == 3) {
            // A sender of profile 3 cannot come to its last counter in 512 calls.
            return;
        }
        DataGuards x = new DataGuards(number);
        int counter = 0;
        for (int i = 0; i < 150; i++) {
            if (profile == 2) {
                x.plant(1, 99, 0);
                counter += 99;
            }
            x.protect(1);
            counter = (counter + 1) % Rows.counters(profile);
            Due.is(number + ": counter()", x.counter(), counter);
        }
    }

    private static void receivesRowsOf(int number, int profile) {
        DataGuards x = new DataGuards(number);
        int last = Rows.counters(profile) - 1;
        Due.is(number + ": the last counter", Rows.receiveCounter(x, profile, last), 5);
        Due.is(number + ": the counter behind it", Rows.receiveCounter(x, profile, 0), 0);
    }
}
