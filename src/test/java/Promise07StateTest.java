public final class Promise07StateTest {
    public static void main(String[] args) {
        for (int profile = 1; profile <= 3; profile++) {
            becomesValid(profile);
            becomesInvalid(profile);
            leavesInvalid(profile);
            looksAtTheLastTen(profile);
            staysAmidRows(profile);
        }
        Due.end();
    }

    private static void becomesValid(int profile) {
        run(profile, "foo", "112");
        run(profile, "fll", "112");
        run(profile, "folo" + "oooooooo", "1122" + "22222222");
        run(profile, "froro", "11112");
        run(profile, "feoeo", "11112");
        run(profile, "frrrrrrrrrrr", "111111111111");
        run(profile, "foo" + "rrrrrrrrrrrr", "112" + "222222222222");
    }

    private static void becomesInvalid(int profile) {
        run(profile, "eee", "113");
        run(profile, "feee", "1113");
        run(profile, "fwww", "1113");
        run(profile, "fewe", "1113");
        run(profile, "fooeeo", "112222");
        run(profile, "fooeee", "112223");
        run(profile, "fooewe", "112223");
        run(profile, "foorrreee", "112222223");
    }

    private static void leavesInvalid(int profile) {
        // The first of three errors goes out of the last ten with the eighth row behind them.
        run(profile, "eee" + "fooooooo", "113" + "33333332");
        run(profile, "foo" + "eee" + "oooooooo", "112" + "223" + "33333332");
        run(profile, "eee" + "foooooo" + "rooo", "113" + "3333333" + "3332");
        run(profile, "eee" + "foorrrr" + "lll", "113" + "3333333" + "332");
        run(profile, "eee" + "foorrrr" + "olw" + "lol", "113" + "3333333" + "333" + "332");
        run(profile, "eee" + "fooo" + "roororooo", "113" + "3333" + "333333332");
    }

    private static void looksAtTheLastTen(int profile) {
        run(profile, "fe" + "ooooooo" + "ee", "11" + "1222222" + "23");
        run(profile, "fe" + "oooooooo" + "ee", "11" + "12222222" + "22");
        run(profile, "fo" + "rrrrrrr" + "o", "11" + "1111111" + "2");
        run(profile, "fo" + "rrrrrrrr" + "oo", "11" + "11111111" + "11");
        run(profile, "fo" + "rrrrrrrr" + "ooo", "11" + "11111111" + "112");
    }

    private static void staysAmidRows(int profile) {
        DataGuards x = new DataGuards(profile);
        x.check(9, (byte) 0, false);
        x.check(-1, (byte) 0, true);
        Due.is("state() amid the first row", x.state(), 0);
        x.check(9, (byte) 0, true);
        Due.is("state() behind it", x.state(), 1);
    }

    /**
     * Rows by a letter each: f the first right one, o OK, l some lost, r repeated, w wrong sequence, e in
     * error; and the state behind each.
     */
    private static void run(int profile, String rows, String states) {
        DataGuards x = new DataGuards(profile);
        int counter = 5;
        Due.is("state() before " + rows, x.state(), 0);
        for (int i = 0; i < rows.length(); i++) {
            int kind = "orlwef".indexOf(rows.charAt(i));
            counter = (counter + new int[] {1, 0, 2 + i % 2, 4, 0, 0}[kind]) % Rows.counters(profile);
            int found = kind == 4 ? Rows.receiveError(x) : Rows.receiveCounter(x, profile, counter);
            Due.is(rows + ", row " + i, found, kind);
            Due.is(rows + ", state() behind row " + i, x.state(), states.charAt(i) - '0');
        }
    }
}
