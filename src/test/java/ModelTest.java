import java.util.Arrays;
import java.util.Random;

/** Runs of 512 calls by chance (always the same ones), against the model. */
public final class ModelTest {
    private static final int CALLS = 512;

    private final Random random;
    private final DataGuards x;
    private final LogModel model;
    private final String run;
    /** How often, of 100, a row is changed on its way; some runs are kinder than others. */
    private final int unkind;
    private int calls = 0;
    private long time = 0;
    private byte[] onItsWay = new byte[0];
    private int identityOnItsWay = 0;

    private ModelTest(int seed) {
        random = new Random(seed);
        int number = seed % 9 == 0 ? random.nextInt() : 1 + seed % 3;
        x = new DataGuards(number);
        model = new LogModel(number);
        run = "run " + seed + " of profile " + number;
        unkind = new int[] {0, 5, 20, 50}[seed / 3 % 4];
    }

    public static void main(String[] args) {
        for (int seed = 0; seed < 3000; seed++) {
            new ModelTest(seed).calls();
        }
        Due.end();
    }

    private void calls() {
        while (calls < CALLS) {
            switch (random.nextInt(8)) {
                case 0 -> plant();
                case 1 -> react();
                case 2 -> wildCheck();
                case 3 -> ask();
                default -> sendAndReceive();
            }
        }
    }

    private boolean chance(int ofHundred) {
        return random.nextInt(100) < ofHundred;
    }

    private boolean more() {
        return calls++ < CALLS;
    }

    private void due(String call, long got, long want) {
        Due.is(run + ", call " + calls + ", " + call, got, want);
    }

    private void plant() {
        int kind = chance(90) ? random.nextInt(2) : random.nextInt(6) - 2;
        int most = unkind < 20 ? 4 : 106;
        int at = random.nextInt(most) - (chance(5) ? 3 : 0);
        int mask = chance(unkind) ? random.nextInt() : 0;
        if (more()) {
            due("plant(" + kind + ", " + at + ", " + mask + ")", x.plant(kind, at, mask), model.plant(kind, at, mask));
        }
    }

    private void react() {
        time = Math.max(0, time + random.nextInt(90) - (chance(15) ? 60 : 0));
        long t = chance(3) ? -1 - time : time;
        if (more()) {
            due("react(" + t + ")", x.react(t), model.react(t));
        }
    }

    private void wildCheck() {
        if (chance(unkind) && more()) {
            int identity = random.nextInt(70000) - 1000;
            byte b = (byte) random.nextInt();
            boolean last = random.nextBoolean();
            due("check(" + identity + ", " + b + ", " + last + ")", x.check(identity, b, last), model.check(identity, b, last));
        }
    }

    private void sendAndReceive() {
        if (chance(85)) {
            makeRow();
        }
        if (onItsWay.length == 0) {
            return;
        }
        int identity = chance(unkind / 3) ? random.nextInt(65536) : identityOnItsWay;
        byte[] row = onItsWay;
        if (chance(unkind / 3)) {
            row = Arrays.copyOf(row, random.nextInt(80) + 1);
        }
        for (int i = 0; i < row.length; i++) {
            boolean last = i == row.length - 1;
            if (more()) {
                due("check(" + identity + ", " + row[i] + ", " + last + ")",
                    x.check(identity, row[i], last), model.check(identity, row[i], last));
            }
        }
        if (more()) {
            due("state()", x.state(), model.state());
        }
    }

    private void makeRow() {
        int count = chance(4) ? random.nextInt(80) : random.nextInt(3);
        for (int i = 0; i < count && more(); i++) {
            byte b = (byte) random.nextInt();
            x.octet(b);
            model.octet(b);
        }
        int identity = chance(5) ? random.nextInt() : new int[] {0, 7, 258, 65535}[random.nextInt(4)];
        if (more()) {
            int length = model.protect(identity);
            due("protect(" + identity + ")", x.protect(identity), length);
            if (length > 0) {
                onItsWay = model.row;
                identityOnItsWay = identity;
                lookAtRow();
            }
        }
    }

    private void lookAtRow() {
        int looks = model.row.length + 2;
        if (calls + looks <= CALLS) {
            Due.rowIs(run + ", call " + calls, x, model.row);
            calls += looks;
        }
    }

    private void ask() {
        if (calls + 4 > CALLS) {
            calls = CALLS;
            return;
        }
        int i = random.nextInt(14) - 2;
        due("counter()", x.counter(), model.counter());
        due("valid()", x.valid(), model.valid());
        due("span(" + i + ")", x.span(i), model.span(i));
        due("told(" + i + ")", x.told(i) ? 1 : 0, model.told(i) ? 1 : 0);
        calls += 4;
    }
}
