public final class Promise06CounterTest {
    public static void main(String[] args) {
        for (int profile = 1; profile <= 3; profile++) {
            movesWithRowsAlone(profile);
        }
        Due.end();
    }

    private static void movesWithRowsAlone(int profile) {
        DataGuards x = new DataGuards(profile);
        Due.is("counter() at first", x.counter(), 0);
        x.octet((byte) 1);
        x.protect(-1);
        Rows.receiveCounter(x, profile, 7);
        Due.is("counter() without a row", x.counter(), 0);
        for (int i = 0; i < 60; i++) {
            x.protect(1);
            Due.is("counter()", x.counter(), (i + 1) % Rows.counters(profile));
        }
        int before = x.counter();
        x.plant(1, 2, 0);
        Due.is("counter() with a skip planted", x.counter(), before);
        x.protect(1);
        Due.is("counter() behind the skip", x.counter(), (before + 3) % Rows.counters(profile));
        x.protect(1);
        Due.is("counter() behind it", x.counter(), (before + 4) % Rows.counters(profile));
    }
}
