/** Each refusal answers its number, the first that fits, and changes nothing, whatever the object's past. */
public final class RefusalsTest {
    private static final int LOWEST = Integer.MIN_VALUE;
    private static final int HIGHEST = Integer.MAX_VALUE;

    public static void main(String[] args) {
        looksSeeWhatIsNotRefused();
        protectRefuses();
        checkRefuses();
        plantRefusesKinds();
        plantRefusesPlaces();
        theFirstThatFits();
        reactRefuses();
        Due.end();
    }

    private static void looksSeeWhatIsNotRefused() {
        Due.sentence("REFUSALS change nothing");
        for (Past past : Past.values()) {
            Untouched.notBy("protect(9)", past, x -> x.protect(9));
            Untouched.notBy("plant(0, 0, 1)", past, x -> x.plant(0, 0, 1));
            Untouched.notBy("plant(1, 1, 0)", past, x -> x.plant(1, 1, 0));
            Untouched.notBy("check(9, 0, true)", past, x -> x.check(9, (byte) 0, true));
            Untouched.notBy("react(120)", past, x -> x.react(120));
        }
        for (Past past : new Past[] {Past.NEW, Past.AMID, Past.INVALID}) {
            Untouched.notBy("octet(0)", past, x -> x.octet((byte) 0));
            Untouched.notBy("check(9, 0, false)", past, x -> x.check(9, (byte) 0, false));
        }
        Untouched.notBy("check(9, 0, false)", Past.FULL, x -> x.check(9, (byte) 0, false));
    }

    private static void protectRefuses() {
        Due.sentence("-2 the IDENTITY is none.");
        for (int identity : new int[] {-1, 65536, -65535, 65536 + 9, LOWEST, HIGHEST}) {
            String call = "protect(" + identity + ")";
            Untouched.by(call, x -> Due.is(call, x.protect(identity), -2));
        }
    }

    private static void checkRefuses() {
        Due.sentence("-2 the IDENTITY is none (with the last one alone it is looked at).");
        for (int identity : new int[] {-1, 65536, -65535, 65536 + 9, LOWEST, HIGHEST}) {
            for (int b : new int[] {0, 3, 127, -128, -1}) {
                String call = "check(" + identity + ", " + b + ", true)";
                Untouched.by(call, x -> Due.is(call, x.check(identity, (byte) b, true), -2));
            }
        }
    }

    private static void plantRefusesKinds() {
        Due.sentence("-1 no such kind");
        for (int kind : new int[] {-1, 2, 3, 256, 257, LOWEST, LOWEST + 1, HIGHEST}) {
            for (int at : new int[] {0, 2, 100}) {
                String call = "plant(" + kind + ", " + at + ", 255)";
                Untouched.by(call, x -> Due.is(call, x.plant(kind, at, 255), -1));
            }
        }
    }

    private static void plantRefusesPlaces() {
        Due.sentence("-2 at is below 0, or above 100.");
        for (int kind = 0; kind <= 1; kind++) {
            for (int at : new int[] {-1, 101, -100, 256, LOWEST, HIGHEST}) {
                int chosen = kind;
                String call = "plant(" + kind + ", " + at + ", 255)";
                Untouched.by(call, x -> Due.is(call, x.plant(chosen, at, 255), -2));
            }
        }
    }

    private static void theFirstThatFits() {
        Due.sentence("answer, the first that fits: -1 an unknown number, -2 outside a range");
        for (int kind : new int[] {-1, 2, LOWEST, HIGHEST}) {
            for (int at : new int[] {-1, 101, LOWEST, HIGHEST}) {
                String call = "plant(" + kind + ", " + at + ", 255)";
                Untouched.by(call, x -> Due.is(call, x.plant(kind, at, 255), -1));
            }
        }
    }

    private static void reactRefuses() {
        Due.sentence("-2 it is less than one before, or below 0.");
        for (long t : new long[] {-1, -100, Long.MIN_VALUE, Long.MIN_VALUE + 100}) {
            String call = "react(" + t + ")";
            Untouched.by(call, x -> Due.is(call, x.react(t), -2));
        }
        for (Past past : new Past[] {Past.AMID, Past.FULL, Past.INVALID}) {
            refusedBefore(past);
        }
    }

    private static void refusedBefore(Past past) {
        for (long t : new long[] {0, past.timeTold - 1}) {
            String call = "react(" + t + ") behind " + past.timeTold;
            Untouched.by(call, past, x -> Due.is(call, x.react(t), -2));
        }
    }
}
