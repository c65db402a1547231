import java.util.List;
import java.util.function.Consumer;

/** Whether calls leave an object as it was: looked at beside a twin that was spared them. */
final class Untouched {
    private Untouched() {
    }

    /** In every profile, behind every past, the calls change nothing. */
    static void by(String what, Consumer<DataGuards> calls) {
        for (Past past : Past.values()) {
            by(what, past, calls);
        }
    }

    static void by(String what, Past past, Consumer<DataGuards> calls) {
        for (int profile = 1; profile <= 3; profile++) {
            for (Look look : Look.values()) {
                String where = what + " in profile " + profile + ", " + past + ", looked " + look;
                Due.is(where + ": 1 if nothing changed", isAlike(look, past, profile, calls), true);
            }
        }
    }

    /** Some look shows what the calls change: a test that never sees a change would say nothing. */
    static void notBy(String what, Past past, Consumer<DataGuards> calls) {
        for (int profile = 1; profile <= 3; profile++) {
            boolean alike = true;
            for (Look look : Look.values()) {
                alike &= isAlike(look, past, profile, calls);
            }
            Due.is(what + " in profile " + profile + ", " + past + ": 0 if it is seen", alike, false);
        }
    }

    private static boolean isAlike(Look look, Past past, int profile, Consumer<DataGuards> calls) {
        DataGuards told = past.object(profile);
        calls.accept(told);
        List<Long> seen = look.at(told, past, profile);
        return seen.equals(look.at(past.object(profile), past, profile));
    }
}
