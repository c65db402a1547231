import java.util.ArrayList;
import java.util.Arrays;
import java.util.List;

/** The document once more, in another form: what happened is logged, and answers are worked out from the log. */
final class LogModel {
    private final int profile;
    private final List<Byte> data = new ArrayList<>();
    private final List<Byte> collected = new ArrayList<>();
    private final List<Integer> findings = new ArrayList<>();
    private final List<Integer> counters = new ArrayList<>();
    private final List<Long> times = new ArrayList<>(List.of(0L));
    private long timeOfGood = 0;
    private int counter = 0;
    private int[] flip = null;
    private int skip = 0;
    byte[] row = new byte[0];

    LogModel(int number) {
        profile = number == 2 || number == 3 ? number : 1;
    }

    void octet(byte b) {
        data.add(b);
    }

    int protect(int identity) {
        if (identity < 0 || identity > 65535) {
            return -2;
        }
        int used = (counter + skip) % Rows.counters(profile);
        row = Rows.row(profile, identity, used, bytes(data.subList(0, Math.min(64, data.size()))));
        if (flip != null && flip[0] < row.length) {
            row = Rows.flipped(row, flip[0], flip[1]);
        }
        counter = (used + 1) % Rows.counters(profile);
        data.clear();
        flip = null;
        skip = 0;
        return row.length;
    }

    int check(int identity, byte b, boolean last) {
        if (last && (identity < 0 || identity > 65535)) {
            return -2;
        }
        collected.add(b);
        if (!last) {
            return 0;
        }
        int finding = finding(identity, bytes(collected));
        collected.clear();
        findings.add(finding);
        if (isGood(finding)) {
            timeOfGood = times.get(times.size() - 1);
        }
        return finding;
    }

    private int finding(int identity, byte[] got) {
        int head = Rows.counterOctets(profile);
        int tail = Rows.bits(profile) / 8;
        if (got.length < head + tail || got.length > 70) {
            return 4;
        }
        int told = head == 1 ? got[0] & 255 : (got[0] & 255) << 8 | got[1] & 255;
        byte[] right = Rows.row(profile, identity, told, Arrays.copyOfRange(got, head, got.length - tail));
        if (!Arrays.equals(got, right) || told >= Rows.counters(profile)) {
            return 4;
        }
        counters.add(told);
        if (counters.size() == 1) {
            return 5;
        }
        int steps = told - counters.get(counters.size() - 2);
        if (steps < 0) {
            steps += Rows.counters(profile);
        }
        return new int[] {1, 0, 2, 2, 3}[Math.min(steps, 4)];
    }

    int counter() {
        return counter;
    }

    int state() {
        int state = 0;
        for (int rows = 1; rows <= findings.size(); rows++) {
            List<Integer> ten = findings.subList(Math.max(0, rows - 10), rows);
            List<Integer> three = findings.subList(Math.max(0, rows - 3), rows);
            long good = ten.stream().filter(LogModel::isGood).count();
            long bad = ten.stream().filter(f -> f == 3 || f == 4).count();
            boolean allGood = three.size() == 3 && three.stream().allMatch(LogModel::isGood);
            state = Math.max(state, 1);
            if (bad >= 3) {
                state = 3;
            } else if (good >= 3 && (state == 1 || state == 3 && allGood)) {
                state = 2;
            }
        }
        return state;
    }

    int span(int i) {
        return i < 0 || i > 9 || i >= findings.size() ? -1 : findings.get(findings.size() - 1 - i);
    }

    int plant(int kind, int at, int mask) {
        if (kind < 0 || kind > 1) {
            return -1;
        }
        if (at < 0 || at > 100) {
            return -2;
        }
        if (kind == 0) {
            flip = new int[] {at, mask & 255};
        } else {
            skip = at;
        }
        return 1;
    }

    int valid() {
        return (int) findings.stream().filter(LogModel::isGood).count();
    }

    int react(long t) {
        if (t < 0 || t < times.get(times.size() - 1)) {
            return -2;
        }
        times.add(t);
        return t - timeOfGood >= 100 || state() == 3 ? 1 : 0;
    }

    boolean told(int i) {
        return findings.contains(i);
    }

    private static boolean isGood(int finding) {
        return finding == 0 || finding == 2 || finding == 5;
    }

    private static byte[] bytes(List<Byte> list) {
        byte[] bytes = new byte[list.size()];
        for (int i = 0; i < bytes.length; i++) {
            bytes[i] = list.get(i);
        }
        return bytes;
    }
}
