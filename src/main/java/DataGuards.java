/**
 * Data that is protected on its way: a sender that makes rows with a counter and a check, a receiver
 * that finds out what became of each row, and what its findings come to over the last rows.
 */
public final class DataGuards {
    private static final int UNKNOWN = -1;
    private static final int OUTSIDE = -2;

    private static final int SHAPE_OF_8 = 29;
    private static final int SHAPE_OF_16 = 4129;
    private static final int SHAPE_OF_32 = -189989101;

    private static final int MOST_DATA = 64;
    private static final int MOST_OCTETS = 70;
    private static final int HIGHEST_IDENTITY = 65535;

    private static final int FLIP = 0;
    private static final int SKIP = 1;
    private static final int HIGHEST_PLANTED = 100;

    private static final int OK = 0;
    private static final int REPEATED = 1;
    private static final int SOME_LOST = 2;
    private static final int WRONG_SEQUENCE = 3;
    private static final int ERROR = 4;
    private static final int FIRST = 5;
    private static final int MOST_LOST_STEPS = 3;

    private static final int NEITHER = 0;
    private static final int GOOD = 1;
    private static final int BAD = 2;

    private static final int NO_DATA = 0;
    private static final int INITIAL = 1;
    private static final int VALID = 2;
    private static final int INVALID = 3;
    private static final int LAST_ROWS = 10;
    private static final int ENOUGH_ROWS = 3;

    private static final long PATIENCE = 100;

    private final Sender sender;
    private final Receiver receiver;
    private final History history;
    private long timeTold;
    private long timeOfGoodRow;

    public DataGuards(int profile) {
        Profile chosen = Profile.numbered(profile);
        sender = new Sender(chosen);
        receiver = new Receiver(chosen);
        history = new History();
    }

    public void octet(byte b) {
        sender.collect(b);
    }

    public int protect(int identity) {
        return isIdentity(identity) ? sender.makeRow(identity) : OUTSIDE;
    }

    public byte out(int i) throws ArrayIndexOutOfBoundsException {
        if (!sender.row.has(i)) {
            throw new ArrayIndexOutOfBoundsException("the last row has no such octet");
        }
        return (byte) sender.row.get(i);
    }

    public int check(int identity, byte b, boolean last) {
        if (last && !isIdentity(identity)) {
            return OUTSIDE;
        }
        receiver.collect(b);
        return last ? endOfRow(identity) : 0;
    }

    public int counter() {
        return sender.nextCounter;
    }

    public int state() {
        return history.joined;
    }

    public int span(int i) {
        return history.finding(i);
    }

    public int plant(int kind, int at, int mask) {
        if (kind != FLIP && kind != SKIP) {
            return UNKNOWN;
        }
        if (at < 0 || at > HIGHEST_PLANTED) {
            return OUTSIDE;
        }
        if (kind == FLIP) {
            sender.plantFlip(at, mask);
        } else {
            sender.plantSkip(at);
        }
        return 1;
    }

    public int valid() {
        return history.goodRows;
    }

    public int react(long t) {
        // The time told is never below 0, so this refuses times below 0 too.
        if (t < timeTold) {
            return OUTSIDE;
        }
        timeTold = t;
        return t - timeOfGoodRow >= PATIENCE || history.joined == INVALID ? 1 : 0;
    }

    public boolean told(int i) {
        return history.everFound(i);
    }

    public int polynomial(int bits) {
        switch (bits) {
            case 8:
                return SHAPE_OF_8;
            case 16:
                return SHAPE_OF_16;
            case 32:
                return SHAPE_OF_32;
            default:
                return UNKNOWN;
        }
    }

    private int endOfRow(int identity) {
        int finding = receiver.endRow(identity);
        history.add(finding);
        if (sideOf(finding) == GOOD) {
            timeOfGoodRow = timeTold;
        }
        return finding;
    }

    private static boolean isIdentity(int identity) {
        return identity >= 0 && identity <= HIGHEST_IDENTITY;
    }

    /** Which side a finding speaks for; neither for a repeated row, or where there is no row. */
    private static int sideOf(int finding) {
        switch (finding) {
            case OK:
            case SOME_LOST:
            case FIRST:
                return GOOD;
            case ERROR:
            case WRONG_SEQUENCE:
                return BAD;
            default:
                return NEITHER;
        }
    }

    /** The numbers of a profile, and the check that it puts over a row. */
    private static final class Profile {
        private final int bits;
        private final int shape;
        private final int begin;
        private final int end;
        private final int counters;
        private final int counterOctets;

        private Profile(int bits, int shape, int begin, int end, int counters, int counterOctets) {
            this.bits = bits;
            this.shape = shape;
            this.begin = begin;
            this.end = end;
            this.counters = counters;
            this.counterOctets = counterOctets;
        }

        static Profile numbered(int number) {
            switch (number) {
                case 2:
                    return new Profile(16, SHAPE_OF_16, 65535, 0, 256, 1);
                case 3:
                    return new Profile(32, SHAPE_OF_32, -1, -1, 65536, 2);
                default:
                    return new Profile(8, SHAPE_OF_8, 255, 255, 15, 1);
            }
        }

        int checkOctets() {
            return bits >> 3;
        }

        /** The counter that n steps from 0 lead to; the divisor is looked at, as the language rules ask. */
        int goingRound(int n) {
            return counters > 0 ? Math.floorMod(n, counters) : 0;
        }

        /** The check over the identity and the first octets of a row. */
        int checkOver(int identity, Octets row, int length) {
            int register = shifted(begin, identity >> 8);
            register = shifted(register, identity);
            for (int i = 0; i < length; i++) {
                register = shifted(register, row.get(i));
            }
            return register ^ end;
        }

        private int shifted(int register, int octet) {
            int mask = -1 >>> (32 - bits);
            int result = register;
            for (int bit = 7; bit >= 0; bit--) {
                int highest = result >>> (bits - 1);
                int taken = (octet >> bit) & 1;
                result = (result << 1) & mask;
                if (highest != taken) {
                    result ^= shape;
                }
            }
            return result;
        }
    }

    /** Octets one behind the other, with room for the longest row. */
    private static final class Octets {
        private final byte[] places = new byte[MOST_OCTETS];
        private int length;

        boolean has(int i) {
            return i >= 0 && i < length && i < places.length;
        }

        /** Octet i as 0 .. 255; 0 where there is none. */
        int get(int i) {
            return has(i) ? places[i] & 255 : 0;
        }

        /** Whether there was room for it. */
        boolean add(int octet) {
            if (length < 0 || length >= places.length) {
                return false;
            }
            places[length] = (byte) octet;
            length++;
            return true;
        }

        void addAll(Octets others) {
            // Taken before, so that the loop ends whatever is added.
            int count = others.length;
            for (int i = 0; i < count; i++) {
                add(others.get(i));
            }
        }

        /** Adds a number of so many octets, the highest first. */
        void addNumber(int number, int octets) {
            for (int left = octets - 1; left >= 0; left--) {
                add(number >>> (8 * left));
            }
        }

        /** The number that stands from a place on in so many octets, the highest first. */
        int numberAt(int place, int octets) {
            int number = 0;
            for (int i = 0; i < octets; i++) {
                number = (number << 8) | get(place + i);
            }
            return number;
        }

        void flip(int i, int mask) {
            if (has(i)) {
                places[i] = (byte) (places[i] ^ mask);
            }
        }

        void clear() {
            length = 0;
        }
    }

    /** Makes rows of the data that it is given, with the faults that are planted. */
    private static final class Sender {
        private final Profile profile;
        private final Octets data = new Octets();
        private final Octets row = new Octets();
        private int nextCounter;
        private int flipPlace;
        private int flipMask;
        private int skip;

        Sender(Profile profile) {
            this.profile = profile;
        }

        void collect(byte b) {
            if (data.length < MOST_DATA) {
                data.add(b);
            }
        }

        void plantFlip(int place, int mask) {
            flipPlace = place;
            flipMask = mask;
        }

        void plantSkip(int steps) {
            skip = steps;
        }

        int makeRow(int identity) {
            int used = profile.goingRound(nextCounter + skip);
            row.clear();
            row.addNumber(used, profile.counterOctets);
            row.addAll(data);
            row.addNumber(profile.checkOver(identity, row, row.length), profile.checkOctets());
            // The flip is a fault on the way: the check must not know of it.
            row.flip(flipPlace, flipMask);
            nextCounter = profile.goingRound(used + 1);
            data.clear();
            flipMask = 0;
            skip = 0;
            return row.length;
        }
    }

    /** Collects the octets of a row and finds out what became of it. */
    private static final class Receiver {
        private static final int NO_COUNTER = -1;

        private final Profile profile;
        private final Octets row = new Octets();
        private boolean tooMany;
        private int counterBefore = NO_COUNTER;

        Receiver(Profile profile) {
            this.profile = profile;
        }

        void collect(byte b) {
            if (!row.add(b)) {
                tooMany = true;
            }
        }

        int endRow(int identity) {
            int finding = isInError(identity) ? ERROR : findingOf(rowCounter());
            row.clear();
            tooMany = false;
            return finding;
        }

        private boolean isInError(int identity) {
            int checked = row.length - profile.checkOctets();
            if (tooMany || checked < profile.counterOctets) {
                return true;
            }
            int carried = row.numberAt(checked, profile.checkOctets());
            return carried != profile.checkOver(identity, row, checked) || rowCounter() >= profile.counters;
        }

        private int rowCounter() {
            return row.numberAt(0, profile.counterOctets);
        }

        private int findingOf(int rowCounter) {
            int before = counterBefore;
            counterBefore = rowCounter;
            return before == NO_COUNTER ? FIRST : findingOfSteps(profile.goingRound(rowCounter - before));
        }

        private static int findingOfSteps(int steps) {
            if (steps == 0) {
                return REPEATED;
            }
            if (steps == 1) {
                return OK;
            }
            return steps <= MOST_LOST_STEPS ? SOME_LOST : WRONG_SEQUENCE;
        }
    }

    /** What was found in the rows, the last one first, and what it comes to. */
    private static final class History {
        private final int[] findings = new int[LAST_ROWS];
        private int rows;
        private int goodRows;
        private int everFoundBits;
        private int joined = NO_DATA;

        void add(int finding) {
            for (int i = LAST_ROWS - 1; i > 0; i--) {
                findings[i] = findings[i - 1];
            }
            findings[0] = finding;
            rows = Math.min(rows + 1, LAST_ROWS);
            if (sideOf(finding) == GOOD) {
                goodRows++;
            }
            everFoundBits |= 1 << finding;
            joined = joinedAfter(joined == NO_DATA ? INITIAL : joined);
        }

        int finding(int i) {
            return i >= 0 && i < rows && i < findings.length ? findings[i] : UNKNOWN;
        }

        boolean everFound(int finding) {
            return finding >= OK && finding <= FIRST && ((everFoundBits >> finding) & 1) == 1;
        }

        private int joinedAfter(int before) {
            if (countOfLast(LAST_ROWS, BAD) >= ENOUGH_ROWS) {
                return INVALID;
            }
            boolean enough = countOfLast(LAST_ROWS, GOOD) >= ENOUGH_ROWS;
            boolean regained = countOfLast(ENOUGH_ROWS, GOOD) == ENOUGH_ROWS;
            return enough && (before == INITIAL || before == INVALID && regained) ? VALID : before;
        }

        /** How many of the last so many rows are of a side. */
        private int countOfLast(int howMany, int side) {
            int count = 0;
            for (int i = 0; i < howMany; i++) {
                if (sideOf(finding(i)) == side) {
                    count++;
                }
            }
            return count;
        }
    }
}
