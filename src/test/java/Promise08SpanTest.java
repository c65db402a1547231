public final class Promise08SpanTest {
    public static void main(String[] args) {
        for (int profile = 1; profile <= 3; profile++) {
            answersTheLastTen(profile);
            countsWholeRowsAlone(profile);
        }
        Due.end();
    }

    private static void answersTheLastTen(int profile) {
        DataGuards x = new DataGuards(profile);
        int[] counters = {0, 1, 1, 3, 9, 10, 10, 13, 14, 3, 5, 6, 7, 7, 7, 8};
        int[] found = {5, 0, 1, 2, 3, 0, 1, 2, 0, 3, 2, 0, 0, 1, 1, 0};
        for (int rows = 0; rows <= counters.length; rows++) {
            for (int i = 0; i < 10; i++) {
                Due.is(rows + " rows, span(" + i + ")", x.span(i), i < rows ? found[rows - 1 - i] : -1);
            }
            for (int i : new int[] {-1, 10, 11, Integer.MIN_VALUE, Integer.MAX_VALUE}) {
                Due.is(rows + " rows, span(" + i + ")", x.span(i), -1);
            }
            if (rows < counters.length) {
                Rows.receiveCounter(x, profile, counters[rows]);
            }
        }
    }

    private static void countsWholeRowsAlone(int profile) {
        DataGuards x = new DataGuards(profile);
        Rows.receiveError(x);
        x.check(9, (byte) 0, false);
        x.check(-1, (byte) 0, true);
        x.protect(9);
        Due.is("span(0)", x.span(0), 4);
        Due.is("span(1)", x.span(1), -1);
    }
}
