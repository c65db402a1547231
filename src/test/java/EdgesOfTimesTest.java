/** The boundary cases of react, a sentence of the document each. */
public final class EdgesOfTimesTest {
    private static final long LOWEST = Long.MIN_VALUE;
    private static final long HIGHEST = Long.MAX_VALUE;

    public static void main(String[] args) {
        for (int profile = 1; profile <= 3; profile++) {
            hundredOrMore(profile);
            toldLastWhenSuchARowCame(profile);
            suchARow(profile);
            cameLast(profile);
            ifNoneDid(profile);
            joinedIsInvalid(profile);
            otherwiseZero(profile);
            lessThanOneBefore(profile);
            belowZero(profile);
            highTimes(profile);
        }
        Due.end();
    }

    private static void react(DataGuards x, long t, int due) {
        Due.is("react(" + t + ")", x.react(t), due);
    }

    private static void hundredOrMore(int profile) {
        Due.sentence("1, if it is 100 or more");
        DataGuards x = new DataGuards(profile);
        react(x, 50, 0);
        new Letters(x, profile).receive("f");
        react(x, 149, 0);
        react(x, 150, 1);
        react(x, 150, 1);
        react(x, 151, 1);
        react(x, 100000, 1);
    }

    private static void toldLastWhenSuchARowCame(int profile) {
        Due.sentence("since the time told last when such a row came last");
        DataGuards x = new DataGuards(profile);
        Letters run = new Letters(x, profile);
        react(x, 10, 0);
        react(x, 30, 0);
        react(x, 29, -2);
        run.receive("f");
        // A time told behind the row is not the row's time.
        react(x, 80, 0);
        react(x, 129, 0);
        react(x, 130, 1);
        run.receive("o");
        react(x, 130, 0);
        react(x, 229, 0);
        react(x, 230, 1);
    }

    private static void suchARow(int profile) {
        Due.sentence("such a row");
        for (String letters : new String[] {"f", "fo", "fl", "fll"}) {
            DataGuards x = new DataGuards(profile);
            Letters run = new Letters(x, profile);
            run.receive(letters.substring(0, letters.length() - 1));
            react(x, 70, 0);
            run.receive(letters.charAt(letters.length() - 1));
            react(x, 169, 0);
            react(x, 170, 1);
        }
        for (char other : "rwe".toCharArray()) {
            DataGuards x = new DataGuards(profile);
            Letters run = new Letters(x, profile);
            run.receive("f");
            react(x, 70, 0);
            run.receive(other);
            react(x, 99, 0);
            react(x, 100, 1);
            run.receive(other);
            react(x, 101, 1);
        }
    }

    private static void cameLast(int profile) {
        Due.sentence("when such a row came last");
        DataGuards x = new DataGuards(profile);
        Letters run = new Letters(x, profile);
        run.receive("f");
        for (int t = 90; t <= 900; t += 90) {
            react(x, t, 0);
            run.receive(t % 180 == 0 ? "o" : "l");
        }
        run.receive("r");
        react(x, 999, 0);
        react(x, 1000, 1);
        // A row that has not ended has not come.
        x.check(9, (byte) 0, false);
        x.check(-1, (byte) 0, true);
        react(x, 1000, 1);
    }

    private static void ifNoneDid(int profile) {
        Due.sentence("(0, if none did)");
        DataGuards x = new DataGuards(profile);
        react(x, 0, 0);
        react(x, 99, 0);
        react(x, 100, 1);
        react(x, 101, 1);
        react(new DataGuards(profile), 100, 1);
        DataGuards y = new DataGuards(profile);
        react(y, 50, 0);
        // A row in error is not such a row.
        Rows.receiveError(y);
        react(y, 99, 0);
        react(y, 100, 1);
    }

    private static void joinedIsInvalid(int profile) {
        Due.sentence("or JOINED is INVALID");
        DataGuards x = new DataGuards(profile);
        Letters run = new Letters(x, profile);
        run.receive("fooee");
        react(x, 0, 0);
        run.receive("e");
        react(x, 0, 1);
        run.receive("oooooo");
        react(x, 1, 1);
        run.receive("o");
        react(x, 1, 1);
        run.receive("o");
        react(x, 1, 0);
        react(x, 100, 0);
        react(x, 101, 1);
    }

    private static void otherwiseZero(int profile) {
        Due.sentence("otherwise 0.");
        react(new DataGuards(profile), 0, 0);
        DataGuards initial = new DataGuards(profile);
        new Letters(initial, profile).receive("ee");
        react(initial, 99, 0);
        DataGuards valid = new DataGuards(profile);
        new Letters(valid, profile).receive("foo");
        react(valid, 99, 0);
    }

    private static void lessThanOneBefore(int profile) {
        Due.sentence("-2 it is less than one before");
        DataGuards x = new DataGuards(profile);
        react(x, 60, 0);
        react(x, 59, -2);
        react(x, 0, -2);
        react(x, 60, 0);
        react(x, 59, -2);
        // The refused time is not told: a row behind it comes at 60.
        new Letters(x, profile).receive("f");
        react(x, 159, 0);
        react(x, 158, -2);
        // Nor is the row's time another one.
        react(x, 159, 0);
        react(x, 158, -2);
        react(x, 160, 1);
        react(x, 159, -2);
        DataGuards invalid = new DataGuards(profile);
        new Letters(invalid, profile).receive("eee");
        react(invalid, 5, 1);
        react(invalid, 4, -2);
        react(invalid, 5, 1);
    }

    private static void belowZero(int profile) {
        Due.sentence("or below 0.");
        DataGuards x = new DataGuards(profile);
        react(x, -1, -2);
        react(x, -100, -2);
        react(x, LOWEST, -2);
        react(x, 0, 0);
        react(x, -1, -2);
        new Letters(x, profile).receive("f");
        react(x, 99, 0);
        react(x, LOWEST, -2);
        react(x, 100, 1);
        DataGuards invalid = new DataGuards(profile);
        new Letters(invalid, profile).receive("eee");
        react(invalid, -1, -2);
        react(invalid, 0, 1);
    }

    private static void highTimes(int profile) {
        Due.sentence("A time is told");
        DataGuards x = new DataGuards(profile);
        Letters run = new Letters(x, profile);
        run.receive("f");
        react(x, Integer.MAX_VALUE + 1L, 1);
        run.receive("o");
        react(x, Integer.MAX_VALUE + 100L, 0);
        react(x, Integer.MAX_VALUE + 101L, 1);
        run.receive("o");
        react(x, 1L << 32, 1);
        run.receive("o");
        react(x, (1L << 32) + 99, 0);
        react(x, HIGHEST - 100, 1);
        run.receive("o");
        react(x, HIGHEST - 1, 0);
        react(x, HIGHEST, 1);
        react(x, HIGHEST, 1);
        react(x, HIGHEST - 1, -2);
        react(x, LOWEST, -2);
        run.receive("o");
        react(x, HIGHEST, 0);
    }
}
