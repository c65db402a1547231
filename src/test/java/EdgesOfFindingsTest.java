/** The boundary cases of span, valid and told, a sentence of the document each. */
public final class EdgesOfFindingsTest {
    private static final int LOWEST = Integer.MIN_VALUE;
    private static final int HIGHEST = Integer.MAX_VALUE;

    public static void main(String[] args) {
        for (int profile = 1; profile <= 3; profile++) {
            lastOneAndTenth(profile);
            thereIsNone(profile);
            howManySoFar(profile);
            somethingThatIsKnown(profile);
            everFound(profile);
        }
        questionsChangeNothing();
        Due.end();
    }

    private static void lastOneAndTenth(int profile) {
        Due.sentence("What was found in the i-th row from the last one on (0 the last one, at most 9)");
        DataGuards x = new DataGuards(profile);
        Letters run = new Letters(x, profile);
        run.receive("fwoooooooo");
        Due.is("span(0)", x.span(0), 0);
        Due.is("span(8)", x.span(8), 3);
        Due.is("span(9), the first row", x.span(9), 5);
        Due.is("span(10)", x.span(10), -1);
        run.receive('l');
        Due.is("span(0) behind another", x.span(0), 2);
        Due.is("span(9) behind another", x.span(9), 3);
        Due.is("span(10) behind another, though there are eleven", x.span(10), -1);
        run.receive('e');
        Due.is("span(0) behind an error", x.span(0), 4);
        Due.is("span(1)", x.span(1), 2);
        Due.is("span(9) behind an error", x.span(9), 0);
    }

    private static void thereIsNone(int profile) {
        Due.sentence("-1 there is none.");
        DataGuards x = new DataGuards(profile);
        int[] never = {-1, -2, 10, 11, 16, 256, LOWEST, HIGHEST};
        Letters run = new Letters(x, profile);
        for (int rows = 0; rows <= 12; rows++) {
            for (int i = 0; i < 10; i++) {
                Due.is(rows + " rows: span(" + i + ") is one", x.span(i) >= 0, i < rows);
            }
            for (int i : never) {
                Due.is(rows + " rows: span(" + i + ")", x.span(i), -1);
            }
            run.receive(rows == 0 ? 'f' : 'o');
        }
        DataGuards y = new DataGuards(profile);
        y.check(9, (byte) 0, false);
        y.check(-1, (byte) 0, true);
        Due.is("span(0) amid the first row", y.span(0), -1);
    }

    private static void howManySoFar(int profile) {
        Due.sentence("How many rows were OK, SOME LOST or FIRST so far.");
        DataGuards x = new DataGuards(profile);
        Letters run = new Letters(x, profile);
        String rows = "efrolwllooooooooooooreeeo";
        int due = 0;
        Due.is("valid() at first", x.valid(), 0);
        for (char letter : rows.toCharArray()) {
            run.receive(letter);
            due += "fol".indexOf(letter) >= 0 ? 1 : 0;
            Due.is("valid() behind " + letter, x.valid(), due);
        }
        x.check(9, (byte) 0, false);
        x.check(-1, (byte) 0, true);
        Due.is("valid() amid a row", x.valid(), due);
    }

    private static void somethingThatIsKnown(int profile) {
        Due.sentence("Whether something (0 .. 5)");
        DataGuards none = new DataGuards(profile);
        DataGuards all = new DataGuards(profile);
        new Letters(all, profile).receive("forlwe");
        for (int i = 0; i <= 5; i++) {
            Due.is("nothing found: told(" + i + ")", none.told(i), false);
            Due.is("all found: told(" + i + ")", all.told(i), true);
        }
        for (int i : new int[] {-1, 6, 7, 8, 31, 32, 33, 37, 63, 64, 69, -27, -32, -64, 256, LOWEST, HIGHEST}) {
            Due.is("nothing found: told(" + i + ")", none.told(i), false);
            Due.is("all found: told(" + i + ")", all.told(i), false);
        }
    }

    private static void everFound(int profile) {
        Due.sentence("was ever found.");
        DataGuards x = new DataGuards(profile);
        x.check(9, (byte) 0, false);
        x.check(-1, (byte) 0, true);
        Due.is("told(0): the answer to an octet is no finding", x.told(0), false);
        x.check(9, (byte) 0, true);
        Letters run = new Letters(x, profile);
        String rows = "frwl" + "oooooooooooo";
        for (char letter : rows.toCharArray()) {
            Due.is("told before " + letter, x.told("orlwef".indexOf(letter)), letter == 'o' && x.span(0) == 0);
            run.receive(letter);
            Due.is("told behind " + letter, x.told("orlwef".indexOf(letter)), true);
        }
        for (int i = 0; i <= 5; i++) {
            Due.is("beyond the last ten: told(" + i + ")", x.told(i), true);
        }
    }

    private static void questionsChangeNothing() {
        Due.sentence("REFUSALS change nothing");
        int[] any = {-1, 0, 5, 6, 9, 10, LOWEST, HIGHEST};
        for (int i : any) {
            Untouched.by("span(" + i + ")", x -> x.span(i));
            Untouched.by("told(" + i + ")", x -> x.told(i));
        }
        Untouched.by("valid()", DataGuards::valid);
    }
}
