import java.util.Arrays;

public final class Promise05CheckTest {
    public static void main(String[] args) {
        for (int profile = 1; profile <= 3; profile++) {
            findsEveryStep(profile);
            everyOctetIsChecked(profile);
            identityIsChecked(profile);
            tooFewAreInError(profile);
            tooManyAreInError(profile);
            errorsLeaveTheCounterBefore(profile);
            refusalsChangeNothing(profile);
            identityCountsWithTheLastOneAlone(profile);
        }
        counterOutsideTheProfile();
        Due.end();
    }

    private static void findsEveryStep(int profile) {
        int counters = Rows.counters(profile);
        int[] steps = {0, 1, 2, 3, 4, 5, counters / 2, counters - 2, counters - 1};
        int[] due = {1, 0, 2, 2, 3, 3, 3, 3, 3};
        for (int from : new int[] {0, 1, counters - 4, counters - 3, counters - 2, counters - 1}) {
            for (int i = 0; i < steps.length; i++) {
                DataGuards x = new DataGuards(profile);
                Due.is("the first row", Rows.receiveCounter(x, profile, from), 5);
                int to = (from + steps[i]) % counters;
                Due.is("from " + from + " to " + to, Rows.receiveCounter(x, profile, to), due[i]);
                Due.is("again " + to, Rows.receiveCounter(x, profile, to), 1);
                Due.is("behind " + to, Rows.receiveCounter(x, profile, (to + 1) % counters), 0);
            }
        }
    }

    private static void everyOctetIsChecked(int profile) {
        byte[] right = Rows.row(profile, 700, 3, Rows.octets(1, 128, 255));
        for (int place = 0; place < right.length; place++) {
            for (int bit = 0; bit < 8; bit++) {
                DataGuards x = new DataGuards(profile);
                byte[] wrong = Rows.flipped(right, place, 1 << bit);
                Due.is("place " + place + " bit " + bit, Rows.receive(x, 700, wrong), 4);
                Due.is("the right row", Rows.receive(x, 700, right), 5);
            }
        }
    }

    private static void identityIsChecked(int profile) {
        byte[] right = Rows.row(profile, 700, 3, Rows.octets(1, 2));
        for (int bit = 0; bit < 16; bit++) {
            DataGuards x = new DataGuards(profile);
            Due.is("identity bit " + bit, Rows.receive(x, 700 ^ 1 << bit, right), 4);
        }
        for (int identity : new int[] {0, 65535}) {
            DataGuards x = new DataGuards(profile);
            Due.is("identity " + identity, Rows.receive(x, identity, Rows.row(profile, identity, 3)), 5);
        }
    }

    private static void tooFewAreInError(int profile) {
        int fewest = Rows.counterOctets(profile) + Rows.bits(profile) / 8;
        for (int count = 1; count < fewest; count++) {
            DataGuards x = new DataGuards(profile);
            Due.is(count + " octets", Rows.receive(x, 9, new byte[count]), 4);
            // The right end of a row, so that the check alone would let it pass.
            byte[] check = new byte[count];
            long due = Rows.check(profile, 9, new byte[0]);
            for (int i = 0; i < count; i++) {
                check[i] = (byte) (due >> 8 * (count - 1 - i));
            }
            Due.is(count + " octets of the check", Rows.receive(x, 9, check), 4);
            Due.is("a right row behind it", Rows.receiveCounter(x, profile, 2), 5);
        }
    }

    private static void tooManyAreInError(int profile) {
        int data = 70 - Rows.counterOctets(profile) - Rows.bits(profile) / 8;
        byte[] full = Rows.row(profile, 9, 1, Rows.rising(data, 3));
        DataGuards x = new DataGuards(profile);
        Due.is("70 octets", Rows.receive(x, 9, full), 5);
        Due.is("71 octets, right in the first 70", Rows.receive(x, 9, Arrays.copyOf(full, 71)), 4);
        Due.is("a right row behind it", Rows.receiveCounter(x, profile, 2), 0);
        Due.is("71 octets, right in all", Rows.receive(x, 9, Rows.row(profile, 9, 3, Rows.rising(data + 1, 3))), 4);
        Due.is("200 octets", Rows.receive(x, 9, Arrays.copyOf(full, 200)), 4);
        Due.is("a right row behind them", Rows.receiveCounter(x, profile, 3), 0);
    }

    private static void errorsLeaveTheCounterBefore(int profile) {
        DataGuards x = new DataGuards(profile);
        Due.is("error at first", Rows.receiveError(x), 4);
        Due.is("the first one", Rows.receiveCounter(x, profile, 2), 5);
        Due.is("error", Rows.receiveError(x), 4);
        Due.is("wrong check", Rows.receive(x, 8, Rows.row(profile, 9, 3)), 4);
        Due.is("one step", Rows.receiveCounter(x, profile, 3), 0);
        Due.is("wrong sequence", Rows.receiveCounter(x, profile, 9), 3);
        Due.is("one step from the wrong one", Rows.receiveCounter(x, profile, 10), 0);
    }

    private static void refusalsChangeNothing(int profile) {
        DataGuards x = new DataGuards(profile);
        byte[] row = Rows.row(profile, 9, 4, Rows.octets(50));
        for (int i = 0; i < row.length - 1; i++) {
            x.check(9, row[i], false);
            Due.is("identity 65536", x.check(65536, (byte) i, true), -2);
            Due.is("identity -1", x.check(-1, row[i], true), -2);
            Due.is("lowest", x.check(Integer.MIN_VALUE, row[i], true), -2);
            Due.is("highest", x.check(Integer.MAX_VALUE, row[i], true), -2);
        }
        Due.is("state() yet", x.state(), 0);
        Due.is("span(0) yet", x.span(0), -1);
        Due.is("the row is whole", x.check(9, row[row.length - 1], true), 5);
        fullAndRefused(profile);
    }

    private static void fullAndRefused(int profile) {
        DataGuards x = new DataGuards(profile);
        byte[] row = Rows.row(profile, 9, 4, Rows.rising(64, 0));
        for (int i = 0; i < row.length - 1; i++) {
            x.check(9, row[i], false);
        }
        for (int i = 0; i < 9; i++) {
            Due.is("refused at the end", x.check(70000, (byte) i, true), -2);
        }
        Due.is("refused ones are not too many", x.check(9, row[row.length - 1], true), 5);
    }

    private static void identityCountsWithTheLastOneAlone(int profile) {
        DataGuards x = new DataGuards(profile);
        byte[] row = Rows.row(profile, 9, 4, Rows.octets(50, 60));
        int[] others = {-1, 65536, Integer.MIN_VALUE, Integer.MAX_VALUE, 0};
        for (int i = 0; i < row.length - 1; i++) {
            Due.is("not the last one", x.check(others[i % others.length], row[i], false), 0);
        }
        Due.is("the last one", x.check(9, row[row.length - 1], true), 5);
    }

    private static void counterOutsideTheProfile() {
        for (int counter = 0; counter < 256; counter++) {
            DataGuards x = new DataGuards(1);
            Due.is("profile 1, counter " + counter, Rows.receiveCounter(x, 1, counter), counter < 15 ? 5 : 4);
        }
        Due.is("profile 2, counter 255", Rows.receiveCounter(new DataGuards(2), 2, 255), 5);
        Due.is("profile 3, counter 65535", Rows.receiveCounter(new DataGuards(3), 3, 65535), 5);
    }
}
