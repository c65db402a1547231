import java.util.ArrayList;
import java.util.List;

/** Ways to look at an object, which together show all of it that any later answer depends on. */
enum Look {
    AT_ONCE {
        @Override
        void at(DataGuards x, Past past, int profile, List<Long> seen) {
            seen.add((long) x.counter());
            seen.add((long) x.state());
            seen.add((long) x.valid());
            for (int i = 0; i < 10; i++) {
                seen.add((long) x.span(i));
            }
            for (int i = 0; i < 6; i++) {
                seen.add(x.told(i) ? 1L : 0L);
            }
            addRow(x, seen);
        }
    },

    /** Shows the time told last. */
    AT_ALL_TIMES {
        @Override
        void at(DataGuards x, Past past, int profile, List<Long> seen) {
            addTimes(x, 0, seen);
        }
    },

    /** Shows the time of the last good row, without a refusal that could hide what another one changed. */
    AT_LATER_TIMES {
        @Override
        void at(DataGuards x, Past past, int profile, List<Long> seen) {
            addTimes(x, past.timeTold, seen);
        }
    },

    /** Shows data, faults and the counter. */
    AT_ROWS_MADE {
        @Override
        void at(DataGuards x, Past past, int profile, List<Long> seen) {
            for (int i = 0; i < 2; i++) {
                seen.add((long) x.protect(9));
                addRow(x, seen);
                seen.add((long) x.counter());
            }
        }
    },

    /** Shows the octets collected, the counter before, and what is kept of the rows. */
    AT_ROWS_FOUND {
        @Override
        void at(DataGuards x, Past past, int profile, List<Long> seen) {
            addFound(x, past.rest(profile), seen);
            for (int counter = 3; counter < 12; counter++) {
                addFound(x, Rows.row(profile, 9, counter), seen);
            }
        }
    },

    /** Shows the time at which a row that ends now would come. */
    AT_TIMES_BEHIND_A_ROW {
        @Override
        void at(DataGuards x, Past past, int profile, List<Long> seen) {
            addFound(x, past.rest(profile), seen);
            addTimes(x, past.timeTold, seen);
        }
    };

    abstract void at(DataGuards x, Past past, int profile, List<Long> seen);

    List<Long> at(DataGuards x, Past past, int profile) {
        List<Long> seen = new ArrayList<>();
        at(x, past, profile, seen);
        return seen;
    }

    private static void addRow(DataGuards x, List<Long> seen) {
        for (int i = -1; i <= 70; i++) {
            seen.add(Due.outOrThrown(x, i));
        }
    }

    private static void addTimes(DataGuards x, int begin, List<Long> seen) {
        for (int t = begin; t <= 200; t++) {
            seen.add((long) x.react(t));
        }
    }

    private static void addFound(DataGuards x, byte[] rest, List<Long> seen) {
        for (int i = 0; i < rest.length; i++) {
            seen.add((long) x.check(9, rest[i], i == rest.length - 1));
        }
        seen.add((long) x.state());
        seen.add((long) x.valid());
    }
}
