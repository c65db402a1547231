import java.util.Arrays;

/** The boundary cases of the receiver and check, a sentence of the document each. */
public final class EdgesOfReceiverTest {
    private static final int LOWEST = Integer.MIN_VALUE;
    private static final int HIGHEST = Integer.MAX_VALUE;
    private static final int[] FEWEST = {2, 3, 6};

    public static void main(String[] args) {
        othersAreLost();
        tooFew();
        tooMany();
        checkIsNotRight();
        counterIsNone();
        counterOfTheRowBefore();
        goingRound();
        first();
        repeated();
        ok();
        someLost();
        wrongSequence();
        zeroOtherwise();
        noIdentity();
        lookedAtWithTheLastOneAlone();
        Due.end();
    }

    private static void othersAreLost() {
        Due.sentence("collects octets of a ROW, at most 70 (others are lost, and it is in ERROR)");
        for (int profile = 1; profile <= 3; profile++) {
            byte[] full = fullRow(profile, 4);
            for (int more : new int[] {1, 2, 70, 71, 200}) {
                DataGuards x = new DataGuards(profile);
                Due.is(70 + more + " octets", Rows.receive(x, 9, Arrays.copyOf(full, 70 + more)), 4);
                Due.is("a right row of 70 behind them", Rows.receive(x, 9, full), 5);
            }
        }
        Untouched.by("octets that are lost", Past.TOO_MANY, x -> {
            x.check(9, (byte) 0, false);
            x.check(-1, (byte) 255, false);
        });
    }

    private static byte[] fullRow(int profile, int counter) {
        return Rows.row(profile, 9, counter, Rows.rising(70 - FEWEST[profile - 1], 3));
    }

    private static void tooFew() {
        Due.sentence("there are too few for COUNTER and CHECK");
        for (int profile = 1; profile <= 3; profile++) {
            byte[] fewest = Rows.row(profile, 9, 1);
            Due.is("as many as it takes", fewest.length, FEWEST[profile - 1]);
            Due.is("just enough", Rows.receive(new DataGuards(profile), 9, fewest), 5);
            for (int count = 1; count < fewest.length; count++) {
                DataGuards x = new DataGuards(profile);
                Due.is("the first " + count, Rows.receive(x, 9, Arrays.copyOf(fewest, count)), 4);
                byte[] end = Arrays.copyOfRange(fewest, fewest.length - count, fewest.length);
                Due.is("the last " + count, Rows.receive(x, 9, end), 4);
                Due.is("just enough behind them", Rows.receive(x, 9, fewest), 5);
            }
            checkAlone(profile);
        }
    }

    /** No counter at all, and a check that is right over the identity alone. */
    private static void checkAlone(int profile) {
        int octets = Rows.bits(profile) / 8;
        long due = Rows.check(profile, 9, new byte[0]);
        byte[] check = new byte[octets];
        for (int i = 0; i < octets; i++) {
            check[i] = (byte) (due >> 8 * (octets - 1 - i));
        }
        Due.is("a check alone", Rows.receive(new DataGuards(profile), 9, check), 4);
        if (profile == 3) {
            halfACounter();
        }
    }

    private static void halfACounter() {
        byte[] half = Rows.octets(0, 0, 0, 0, 0);
        long due = Rows.check(3, 9, Rows.octets(0));
        for (int i = 0; i < 4; i++) {
            half[1 + i] = (byte) (due >> 8 * (3 - i));
        }
        Due.is("one octet of the counter, and a right check", Rows.receive(new DataGuards(3), 9, half), 4);
    }

    private static void tooMany() {
        Due.sentence("or too many");
        for (int profile = 1; profile <= 3; profile++) {
            DataGuards x = new DataGuards(profile);
            Due.is("70 octets", Rows.receive(x, 9, fullRow(profile, 4)), 5);
            byte[] rightIn71 = Rows.row(profile, 9, 5, Rows.rising(71 - FEWEST[profile - 1], 3));
            Due.is("71 octets, right in all", Rows.receive(x, 9, rightIn71), 4);
            Due.is("71 octets, right in the first 70", Rows.receive(x, 9, Arrays.copyOf(fullRow(profile, 5), 71)), 4);
            Due.is("70 octets again", Rows.receive(x, 9, fullRow(profile, 5)), 0);
        }
    }

    private static void checkIsNotRight() {
        Due.sentence("or the CHECK is not right for the IDENTITY told");
        for (int profile = 1; profile <= 3; profile++) {
            byte[] right = Rows.row(profile, 65535, 3, Rows.octets(1));
            for (int place = 0; place < right.length; place++) {
                DataGuards x = new DataGuards(profile);
                Due.is("the lowest bit at " + place, Rows.receive(x, 65535, Rows.flipped(right, place, 1)), 4);
                Due.is("the highest bit at " + place, Rows.receive(x, 65535, Rows.flipped(right, place, 128)), 4);
                Due.is("the right row", Rows.receive(x, 65535, right), 5);
            }
            for (int identity : new int[] {0, 65534, 32767, 255, 65280}) {
                Due.is("identity " + identity, Rows.receive(new DataGuards(profile), identity, right), 4);
            }
        }
    }

    private static void counterIsNone() {
        Due.sentence("or the COUNTER is none of the PROFILE's");
        for (int counter = 15; counter <= 255; counter++) {
            Due.is("profile 1, counter " + counter, Rows.receiveCounter(new DataGuards(1), 1, counter), 4);
        }
        DataGuards x = new DataGuards(1);
        Due.is("counter 14", Rows.receiveCounter(x, 1, 14), 5);
        Due.is("counter 15", Rows.receiveCounter(x, 1, 15), 4);
        Due.is("counter 0, one step from 14", Rows.receiveCounter(x, 1, 0), 0);
        Due.is("profile 2, counter 255", Rows.receiveCounter(new DataGuards(2), 2, 255), 5);
        Due.is("profile 3, counter 65535", Rows.receiveCounter(new DataGuards(3), 3, 65535), 5);
    }

    private static void counterOfTheRowBefore() {
        Due.sentence("the COUNTER less that of the row that was not in ERROR before");
        for (int profile = 1; profile <= 3; profile++) {
            DataGuards x = new DataGuards(profile);
            found(x, profile, 5, 2);
            Due.is("a wrong check, counter 7", Rows.receive(x, 8, Rows.row(profile, 9, 7)), 4);
            Due.is("too few", Rows.receiveError(x), 4);
            Due.is("too many", Rows.receive(x, 9, new byte[71]), 4);
            found(x, profile, 0, 3);
            found(x, profile, 3, 8);
            found(x, profile, 0, 9);
            found(x, profile, 1, 9);
            found(x, profile, 2, 11);
            found(x, profile, 2, 14);
            Due.is("in error", Rows.receiveError(x), 4);
            found(x, profile, 1, 14);
        }
    }

    private static void goingRound() {
        Due.sentence("with d, the COUNTER less that of the row that was not in ERROR before, going round");
        for (int profile = 1; profile <= 3; profile++) {
            int last = Rows.counters(profile) - 1;
            stepIs(profile, last, last, 1);
            stepIs(profile, last, 0, 0);
            stepIs(profile, last, 1, 2);
            stepIs(profile, last, 2, 2);
            stepIs(profile, last, 3, 3);
            stepIs(profile, last - 1, 0, 2);
            stepIs(profile, last - 1, 1, 2);
            stepIs(profile, last - 1, 2, 3);
            stepIs(profile, last - 2, 0, 2);
            stepIs(profile, last - 2, 1, 3);
            stepIs(profile, last - 3, 0, 3);
            stepIs(profile, 0, last, 3);
            stepIs(profile, 1, 0, 3);
        }
        // What goes round in a smaller profile does not in a larger one.
        stepIs(2, 14, 0, 3);
        stepIs(3, 255, 0, 3);
        stepIs(3, 255, 256, 0);
    }

    private static void stepIs(int profile, int from, int to, int due) {
        DataGuards x = new DataGuards(profile);
        found(x, profile, 5, from);
        found(x, profile, due, to);
    }

    private static void found(DataGuards x, int profile, int due, int counter) {
        Due.is("profile " + profile + ", counter " + counter, Rows.receiveCounter(x, profile, counter), due);
    }

    private static void first() {
        Due.sentence("5 FIRST: there was none");
        for (int profile = 1; profile <= 3; profile++) {
            for (int counter : new int[] {0, 1, 2, 3, 4, Rows.counters(profile) - 1}) {
                DataGuards x = new DataGuards(profile);
                Due.is("in error", Rows.receiveError(x), 4);
                Due.is("in error again", Rows.receiveError(x), 4);
                found(x, profile, 5, counter);
                Due.is("in error", Rows.receiveError(x), 4);
                found(x, profile, 1, counter);
            }
        }
    }

    private static void repeated() {
        Due.sentence("1 REPEATED: d is 0");
        for (int profile = 1; profile <= 3; profile++) {
            int last = Rows.counters(profile) - 1;
            stepIs(profile, 0, 0, 1);
            stepIs(profile, last, last, 1);
            DataGuards x = new DataGuards(profile);
            found(x, profile, 5, 6);
            Due.is("other data, the same counter", Rows.receive(x, 10, Rows.row(profile, 10, 6, Rows.octets(1))), 1);
            found(x, profile, 1, 6);
        }
    }

    private static void ok() {
        Due.sentence("0 OK: d is 1");
        for (int profile = 1; profile <= 3; profile++) {
            stepIs(profile, 0, 1, 0);
            stepIs(profile, Rows.counters(profile) - 2, Rows.counters(profile) - 1, 0);
            stepIs(profile, Rows.counters(profile) - 1, 0, 0);
        }
    }

    private static void someLost() {
        Due.sentence("2 SOME LOST: d is 2 or 3");
        for (int profile = 1; profile <= 3; profile++) {
            stepIs(profile, 0, 2, 2);
            stepIs(profile, 0, 3, 2);
            stepIs(profile, Rows.counters(profile) - 1, 2, 2);
        }
    }

    private static void wrongSequence() {
        Due.sentence("3 WRONG SEQUENCE: it is more.");
        for (int profile = 1; profile <= 3; profile++) {
            int counters = Rows.counters(profile);
            for (int step : new int[] {4, 5, counters / 2, counters - 3, counters - 2, counters - 1}) {
                stepIs(profile, 0, step, 3);
                stepIs(profile, counters - 1, step - 1, 3);
            }
        }
    }

    private static void zeroOtherwise() {
        Due.sentence("what it finds with the last one; 0 otherwise.");
        for (int profile = 1; profile <= 3; profile++) {
            DataGuards x = new DataGuards(profile);
            for (int i = 0; i < 100; i++) {
                Due.is("octet " + i + " of many", x.check(9, (byte) i, false), 0);
            }
            Due.is("nothing is found yet", x.span(0), -1);
            Due.is("the last one", x.check(9, (byte) 0, true), 4);
            Due.is("found once", x.span(1), -1);
            Due.is("one octet alone", x.check(9, (byte) 0, true), 4);
            Due.is("found twice", x.span(1), 4);
        }
    }

    private static void noIdentity() {
        Due.sentence("-2 the IDENTITY is none");
        for (int profile = 1; profile <= 3; profile++) {
            byte[] row = fullRow(profile, 4);
            for (int identity : new int[] {-1, 65536, 65536 + 9, -65536 + 9, LOWEST, HIGHEST}) {
                DataGuards x = new DataGuards(profile);
                for (int i = 0; i < row.length - 1; i++) {
                    x.check(9, row[i], false);
                }
                Due.is("check(" + identity + ", .., true)", x.check(identity, row[row.length - 1], true), -2);
                Due.is("no row yet", x.state(), 0);
                Due.is("span(0)", x.span(0), -1);
                Due.is("the row goes on as it was", x.check(9, row[row.length - 1], true), 5);
            }
            for (int identity : new int[] {0, 65535}) {
                Due.is("identity " + identity, Rows.receive(new DataGuards(profile), identity, Rows.row(profile, identity, 2)), 5);
            }
        }
    }

    private static void lookedAtWithTheLastOneAlone() {
        Due.sentence("(with the last one alone it is looked at)");
        for (int profile = 1; profile <= 3; profile++) {
            byte[] row = Rows.row(profile, 9, 4, Rows.octets(50, 60));
            for (int identity : new int[] {-1, 65536, LOWEST, HIGHEST, 0, 8, 65535}) {
                DataGuards x = new DataGuards(profile);
                for (int i = 0; i < row.length - 1; i++) {
                    Due.is("check(" + identity + ", .., false)", x.check(identity, row[i], false), 0);
                }
                Due.is("check(9, .., true)", x.check(9, row[row.length - 1], true), 5);
            }
        }
    }
}
