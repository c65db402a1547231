import java.io.ByteArrayOutputStream;
import java.math.BigInteger;

/** Rows as the document words them, made without the class under test. */
final class Rows {
    private Rows() {
    }

    static int bits(int profile) {
        return profile == 3 ? 32 : profile == 2 ? 16 : 8;
    }

    static int counters(int profile) {
        return profile == 3 ? 65536 : profile == 2 ? 256 : 15;
    }

    static int counterOctets(int profile) {
        return profile == 3 ? 2 : 1;
    }

    static byte[] octets(int... values) {
        byte[] octets = new byte[values.length];
        for (int i = 0; i < values.length; i++) {
            octets[i] = (byte) values[i];
        }
        return octets;
    }

    /** So many octets, begin, begin + 1 and so on. */
    static byte[] rising(int count, int begin) {
        byte[] octets = new byte[count];
        for (int i = 0; i < count; i++) {
            octets[i] = (byte) (begin + i);
        }
        return octets;
    }

    static byte[] row(int profile, int identity, int counter, byte... data) {
        ByteArrayOutputStream row = new ByteArrayOutputStream();
        if (profile == 3) {
            row.write(counter >> 8);
        }
        row.write(counter);
        row.writeBytes(data);
        long check = check(profile, identity, row.toByteArray());
        for (int shift = bits(profile) - 8; shift >= 0; shift -= 8) {
            row.write((int) (check >> shift));
        }
        return row.toByteArray();
    }

    /**
     * The check by a division of polynomials, not by a register: the message moved up by the bits, its
     * highest bits xor the begin, modulo the shape with its leading 1.
     */
    static long check(int profile, int identity, byte[] before) {
        int bits = bits(profile);
        byte[] message = new byte[before.length + 3];
        message[1] = (byte) (identity >> 8);
        message[2] = (byte) identity;
        System.arraycopy(before, 0, message, 3, before.length);
        int length = 8 * (before.length + 2);
        BigInteger begin = ones(bits).shiftLeft(length);
        BigInteger rest = new BigInteger(message).shiftLeft(bits).xor(begin);
        BigInteger divisor = BigInteger.ONE.shiftLeft(bits).or(BigInteger.valueOf(shape(profile)));
        for (int bit = length + bits - 1; bit >= bits; bit--) {
            if (rest.testBit(bit)) {
                rest = rest.xor(divisor.shiftLeft(bit - bits));
            }
        }
        return profile == 2 ? rest.longValueExact() : rest.xor(ones(bits)).longValueExact();
    }

    private static BigInteger ones(int bits) {
        return BigInteger.ONE.shiftLeft(bits).subtract(BigInteger.ONE);
    }

    private static long shape(int profile) {
        // The document's 32 bits are F4ACFF13: one bit off the published F4ACFB13, whose vectors do not fit.
        return profile == 3 ? 0xF4ACFF13L : profile == 2 ? 0x1021L : 0x1DL;
    }

    static byte[] flipped(byte[] row, int place, int mask) {
        byte[] flipped = row.clone();
        flipped[place] ^= (byte) mask;
        return flipped;
    }

    static void give(DataGuards x, byte... data) {
        for (byte b : data) {
            x.octet(b);
        }
    }

    /** Tells the receiver a whole row; the answer to its last octet. */
    static int receive(DataGuards x, int identity, byte... row) {
        for (int i = 0; i < row.length - 1; i++) {
            Due.is("an octet before the last one", x.check(identity, row[i], false), 0);
        }
        return x.check(identity, row[row.length - 1], true);
    }

    /** Tells the receiver a right row of identity 9 without data. */
    static int receiveCounter(DataGuards x, int profile, int counter) {
        return receive(x, 9, row(profile, 9, counter));
    }

    /** Tells the receiver a row that is too short. */
    static int receiveError(DataGuards x) {
        return receive(x, 9, (byte) 1);
    }
}
