public final class Promise13PolynomialTest {
    public static void main(String[] args) {
        for (int profile = 1; profile <= 3; profile++) {
            DataGuards x = new DataGuards(profile);
            for (int bits = -40; bits <= 300; bits++) {
                int due = bits == 8 ? 29 : bits == 16 ? 4129 : bits == 32 ? -189989101 : -1;
                Due.is("polynomial(" + bits + ")", x.polynomial(bits), due);
            }
            Due.is("polynomial of the lowest", x.polynomial(Integer.MIN_VALUE), -1);
            Due.is("polynomial of the highest", x.polynomial(Integer.MAX_VALUE), -1);
        }
        Due.end();
    }
}
