import java.util.Arrays;

/** Pasts that an object can have, each with a row that is half on its way to the receiver. */
enum Past {
    NEW(0) {
        @Override
        void live(DataGuards x, int profile) {
        }

        @Override
        byte[] rest(int profile) {
            return Rows.row(profile, 9, 3);
        }
    },

    /** Everything has begun and nothing is at an end. */
    AMID(60) {
        @Override
        void live(DataGuards x, int profile) {
            x.react(40);
            new Letters(x, profile).receive("fle");
            x.octet((byte) 1);
            x.protect(6);
            x.react(timeTold);
            Rows.give(x, Rows.octets(2, 3));
            x.plant(0, 2, 0x5A);
            x.plant(1, 4, 0);
            collect(x, onItsWay(profile), 2);
        }

        @Override
        byte[] rest(int profile) {
            return behind(onItsWay(profile), 2);
        }

        private byte[] onItsWay(int profile) {
            return Rows.row(profile, 9, 9, Rows.octets(7, 8));
        }
    },

    /** No room for data, and for one octet of a row. */
    FULL(99) {
        @Override
        void live(DataGuards x, int profile) {
            Rows.give(x, Rows.rising(64, 0));
            x.react(timeTold);
            collect(x, onItsWay(profile), 69);
        }

        @Override
        byte[] rest(int profile) {
            return behind(onItsWay(profile), 69);
        }

        private byte[] onItsWay(int profile) {
            int data = 70 - Rows.counterOctets(profile) - Rows.bits(profile) / 8;
            return Rows.row(profile, 9, 9, Rows.rising(data, 3));
        }
    },

    /** The receiver has lost octets; a right row behind them is none. */
    TOO_MANY(0) {
        @Override
        void live(DataGuards x, int profile) {
            collect(x, Rows.rising(71, 0), 71);
        }

        @Override
        byte[] rest(int profile) {
            return Rows.row(profile, 9, 3);
        }
    },

    INVALID(7) {
        @Override
        void live(DataGuards x, int profile) {
            new Letters(x, profile).receive("foooooooooeweo");
            x.react(timeTold);
        }

        @Override
        byte[] rest(int profile) {
            return Rows.row(profile, 9, 4);
        }
    };

    final int timeTold;

    Past(int timeTold) {
        this.timeTold = timeTold;
    }

    abstract void live(DataGuards x, int profile);

    /** The octets that end the row of identity 9 that is on its way. */
    abstract byte[] rest(int profile);

    DataGuards object(int profile) {
        DataGuards x = new DataGuards(profile);
        live(x, profile);
        return x;
    }

    private static void collect(DataGuards x, byte[] row, int count) {
        for (int i = 0; i < count; i++) {
            x.check(9, row[i], false);
        }
    }

    private static byte[] behind(byte[] row, int count) {
        return Arrays.copyOfRange(row, count, row.length);
    }
}
