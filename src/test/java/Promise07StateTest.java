public final class Promise07StateTest {
    public static void main(String[] args) {
        for (int profile = 1; profile <= 3; profile++) {
            becomesValid(profile);
            becomesInvalid(profile);
            leavesInvalid(profile);
            looksAtTheLastTen(profile);
            staysAmidRows(profile);
        }
        Due.end();
    }

    private static void becomesValid(int profile) {
        Letters.statesAre(profile, "foo", "112");
        Letters.statesAre(profile, "fll", "112");
        Letters.statesAre(profile, "folo" + "oooooooo", "1122" + "22222222");
        Letters.statesAre(profile, "froro", "11112");
        Letters.statesAre(profile, "feoeo", "11112");
        Letters.statesAre(profile, "frrrrrrrrrrr", "111111111111");
        Letters.statesAre(profile, "foo" + "rrrrrrrrrrrr", "112" + "222222222222");
    }

    private static void becomesInvalid(int profile) {
        Letters.statesAre(profile, "eee", "113");
        Letters.statesAre(profile, "feee", "1113");
        Letters.statesAre(profile, "fwww", "1113");
        Letters.statesAre(profile, "fewe", "1113");
        Letters.statesAre(profile, "fooeeo", "112222");
        Letters.statesAre(profile, "fooeee", "112223");
        Letters.statesAre(profile, "fooewe", "112223");
        Letters.statesAre(profile, "foorrreee", "112222223");
    }

    private static void leavesInvalid(int profile) {
        // The first of three errors goes out of the last ten with the eighth row behind them.
        Letters.statesAre(profile, "eee" + "fooooooo", "113" + "33333332");
        Letters.statesAre(profile, "foo" + "eee" + "oooooooo", "112" + "223" + "33333332");
        Letters.statesAre(profile, "eee" + "foooooo" + "rooo", "113" + "3333333" + "3332");
        Letters.statesAre(profile, "eee" + "foorrrr" + "lll", "113" + "3333333" + "332");
        Letters.statesAre(profile, "eee" + "foorrrr" + "olw" + "lol", "113" + "3333333" + "333" + "332");
        Letters.statesAre(profile, "eee" + "fooo" + "roororooo", "113" + "3333" + "333333332");
    }

    private static void looksAtTheLastTen(int profile) {
        Letters.statesAre(profile, "fe" + "ooooooo" + "ee", "11" + "1222222" + "23");
        Letters.statesAre(profile, "fe" + "oooooooo" + "ee", "11" + "12222222" + "22");
        Letters.statesAre(profile, "fo" + "rrrrrrr" + "o", "11" + "1111111" + "2");
        Letters.statesAre(profile, "fo" + "rrrrrrrr" + "oo", "11" + "11111111" + "11");
        Letters.statesAre(profile, "fo" + "rrrrrrrr" + "ooo", "11" + "11111111" + "112");
    }

    private static void staysAmidRows(int profile) {
        DataGuards x = new DataGuards(profile);
        x.check(9, (byte) 0, false);
        x.check(-1, (byte) 0, true);
        Due.is("state() amid the first row", x.state(), 0);
        x.check(9, (byte) 0, true);
        Due.is("state() behind it", x.state(), 1);
    }
}
