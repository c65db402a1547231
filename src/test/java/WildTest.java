import java.util.Random;

/** Whatever is called with whatever, far beyond 512 calls: only out throws, and only what it should. */
public final class WildTest {
    private static final int[] INTS = {
        Integer.MIN_VALUE, -65536, -256, -101, -70, -2, -1, 0, 1, 2, 3, 5, 6, 8, 9, 10, 15, 16, 31, 32, 63, 64,
        65, 69, 70, 71, 99, 100, 101, 255, 256, 65535, 65536, Integer.MAX_VALUE};
    private static final long[] TIMES = {Long.MIN_VALUE, -1, 0, 1, 99, 100, 1L << 40, Long.MAX_VALUE};

    private final Random random = new Random(5);

    public static void main(String[] args) {
        WildTest test = new WildTest();
        for (int number : INTS) {
            test.calls(number);
        }
        for (int number = 1; number <= 3; number++) {
            test.calls(number);
        }
        Due.end();
    }

    private void calls(int number) {
        DataGuards x = new DataGuards(number);
        for (int i = 0; i < 20000; i++) {
            String thrown = "nothing";
            int call = random.nextInt(12);
            try {
                call(x, call);
            } catch (ArrayIndexOutOfBoundsException e) {
                thrown = call == 0 && !isOfTheMachine(e) ? "nothing" : e.toString();
            } catch (RuntimeException e) {
                thrown = e.toString();
            }
            Due.is("call " + call + " of profile " + number + " throws " + thrown, thrown.equals("nothing"), true);
        }
    }

    /** The machine's own exception names the index, or nothing once it is thrown often; the class's does not. */
    private static boolean isOfTheMachine(ArrayIndexOutOfBoundsException e) {
        return e.getMessage() == null || e.getMessage().startsWith("Index");
    }

    private void call(DataGuards x, int call) {
        switch (call) {
            case 0 -> x.out(any());
            case 1 -> x.octet((byte) any());
            case 2 -> x.protect(any());
            case 3, 4 -> x.check(any(), (byte) any(), random.nextInt(random.nextBoolean() ? 2 : 90) == 0);
            case 5 -> x.counter();
            case 6 -> x.state();
            case 7 -> x.span(any());
            case 8 -> x.plant(any(), any(), any());
            case 9 -> x.valid();
            case 10 -> x.react(TIMES[random.nextInt(TIMES.length)]);
            default -> {
                x.told(any());
                x.polynomial(any());
            }
        }
    }

    private int any() {
        return random.nextInt(10) == 0 ? random.nextInt() : INTS[random.nextInt(INTS.length)];
    }
}
