/** The boundary cases of what the last rows come to, a sentence of the document each. */
public final class EdgesOfJoinedTest {
    public static void main(String[] args) {
        for (int profile = 1; profile <= 3; profile++) {
            noData(profile);
            atFirstInitial(profile);
            overTheLastTen(profile);
            fewerAtFirst(profile);
            rowsOfG(profile);
            rowsOfE(profile);
            repeatedAreNeither(profile);
            threeOfE(profile);
            inThisOrder(profile);
            threeOfG(profile);
            lastThreeOfG(profile);
            otherwiseItStays(profile);
            withEachRow(profile);
        }
        Due.sentence("JOINED.");
        Untouched.by("state()", DataGuards::state);
        Due.end();
    }

    private static void is(int profile, String rows, String states) {
        Letters.statesAre(profile, rows, states);
    }

    private static void noData(int profile) {
        Due.sentence("0 NO DATA: there was no row.");
        DataGuards x = new DataGuards(profile);
        Due.is("state()", x.state(), 0);
        Rows.give(x, Rows.octets(1, 2));
        x.protect(9);
        x.react(1000);
        x.check(9, (byte) 1, false);
        x.check(65536, (byte) 1, true);
        Due.is("state() without a row received", x.state(), 0);
        x.check(9, (byte) 1, true);
        Due.is("state() behind a row", x.state(), 1);
    }

    private static void atFirstInitial(int profile) {
        Due.sentence("of 1 INITIAL, 2 VALID, 3 INVALID: at first 1");
        is(profile, "f", "1");
        is(profile, "e", "1");
    }

    /** A row counts while it is the tenth from the last on, and no more when it is the eleventh. */
    private static void overTheLastTen(int profile) {
        Due.sentence("JOINED, over the last 10 rows");
        is(profile, "fe" + "ooooooo" + "ee", "11" + "1222222" + "23");
        is(profile, "fe" + "oooooooo" + "ee", "11" + "12222222" + "22");
        is(profile, "fo" + "rrrrrrr" + "o", "11" + "1111111" + "2");
        is(profile, "fo" + "rrrrrrrr" + "o", "11" + "11111111" + "1");
        is(profile, "fo" + "rrrrrrrr" + "o" + "o", "11" + "11111111" + "1" + "1");
        is(profile, "fo" + "rrrrrrrr" + "o" + "oo", "11" + "11111111" + "1" + "12");
    }

    private static void fewerAtFirst(int profile) {
        Due.sentence("(fewer at first)");
        // Rows that there never were are neither good nor bad.
        is(profile, "f", "1");
        is(profile, "fo", "11");
        is(profile, "foo", "112");
        is(profile, "ee", "11");
        is(profile, "eee", "113");
    }

    private static void rowsOfG(int profile) {
        Due.sentence("g how many are OK, SOME LOST or FIRST");
        is(profile, "foo", "112");
        is(profile, "fll", "112");
        is(profile, "flo", "112");
        is(profile, "frorl", "11112");
        is(profile, "efrol", "11112");
    }

    private static void rowsOfE(int profile) {
        Due.sentence("e how many ERROR or WRONG SEQUENCE");
        is(profile, "eee", "113");
        is(profile, "fwww", "1113");
        is(profile, "fwew", "1113");
        is(profile, "fewe", "1113");
        is(profile, "fooww", "11222");
        is(profile, "foowew", "112223");
    }

    private static void repeatedAreNeither(int profile) {
        Due.sentence("(REPEATED ones are neither)");
        is(profile, "frrrrrrrrrrrr", "1111111111111");
        is(profile, "frrror", "111111");
        is(profile, "frrroro", "1111112");
        is(profile, "eefrrr", "111111");
        is(profile, "eefrrre", "1111113");
    }

    private static void threeOfE(int profile) {
        Due.sentence("if e is 3 or more: 3");
        is(profile, "fooee", "11222");
        is(profile, "fooeee", "112223");
        is(profile, "fooeeee", "1122233");
        is(profile, "eeeeeeeeeeee", "113333333333");
        is(profile, "fooeeoooooe", "11222222223");
    }

    private static void inThisOrder(int profile) {
        Due.sentence("with each row, in this order");
        // Three of each side with one row: the bad side comes first.
        is(profile, "efoee", "11113");
        is(profile, "eefreo", "111133");
        is(profile, "fooooooeee", "1122222223");
        is(profile, "eee" + "foooooo", "113" + "3333333");
    }

    private static void threeOfG(int profile) {
        Due.sentence("otherwise if g is 3 or more, and it is 1");
        is(profile, "fo", "11");
        is(profile, "foo", "112");
        is(profile, "feoeo", "11112");
        is(profile, "froro", "11112");
        is(profile, "foeel", "11112");
    }

    private static void lastThreeOfG(int profile) {
        Due.sentence("or it is 3 and the last 3 rows are all of g: 2");
        // With the eighth row behind three errors two of them are left among the last ten.
        is(profile, "eee" + "foooooo" + "o", "113" + "3333333" + "2");
        is(profile, "eee" + "fooorrr" + "o", "113" + "3333333" + "3");
        is(profile, "eee" + "fooorrr" + "ooo", "113" + "3333333" + "332");
        is(profile, "eee" + "fooooro" + "o", "113" + "3333333" + "3");
        is(profile, "eee" + "fooooro" + "oo", "113" + "3333333" + "32");
        is(profile, "eee" + "foooroo" + "o", "113" + "3333333" + "2");
        is(profile, "eee" + "foooooo" + "e" + "lol", "113" + "3333333" + "3" + "332");
        is(profile, "eee" + "foooooo" + "w" + "ooo", "113" + "3333333" + "3" + "332");
        is(profile, "eee" + "foooooo" + "r" + "olo", "113" + "3333333" + "3" + "332");
    }

    private static void otherwiseItStays(int profile) {
        Due.sentence("otherwise it stays.");
        is(profile, "eef", "111");
        is(profile, "foo" + "rrrrrrrrrrrr", "112" + "222222222222");
        is(profile, "foo" + "ee" + "rrrrrrrr", "112" + "22" + "22222222");
        is(profile, "eee" + "frrrrrrrrrrr", "113" + "333333333333");
        is(profile, "fo" + "rrrrrrrrrrrr", "11" + "111111111111");
    }

    private static void withEachRow(int profile) {
        Due.sentence("with each row");
        DataGuards x = new DataGuards(profile);
        new Letters(x, profile).receive("foo");
        Due.is("state()", x.state(), 2);
        x.check(9, (byte) 1, false);
        x.check(-1, (byte) 1, true);
        x.protect(9);
        x.react(5000);
        Due.is("state() amid a row", x.state(), 2);
        x.check(9, (byte) 1, true);
        Rows.receiveError(x);
        Due.is("state() behind two in error", x.state(), 2);
        Rows.receiveError(x);
        Due.is("state() behind three", x.state(), 3);
    }
}
