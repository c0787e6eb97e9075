import java.util.Random;

/** Any arguments in any state: only element may throw, and only what it is promised to throw. */
public final class WildCallTests {
    private static final int RUNS = 400;
    private static final int CALLS = 512;
    private static final int[] WILD = {Integer.MIN_VALUE, Integer.MIN_VALUE + 1, -10000, -2001, -100, -48, -3, -2, -1, 41, 48,
        49, 59, 60, 61, 99, 100, 101, 200, 300, 301, 400, 401, 402, 1000, 1001, 2000, 2001, 10101, Integer.MAX_VALUE - 1,
        Integer.MAX_VALUE};
    private static final double[] WILD_VALUES = {0.0 / 0.0, 1.0 / 0.0, -1.0 / 0.0, -0.0, 1e12, -1e12, 1e13, -1e13, 1e300,
        Double.MIN_VALUE, Double.MAX_VALUE, 4.9, -4.9};
    private static final long[] WILD_LONGS = {Long.MIN_VALUE, Long.MIN_VALUE + 1, Long.MAX_VALUE, 1L << 32, -1L << 32, 0, 1};

    private final Random random;
    private final AlarmTower x = new AlarmTower();
    private final int wildShare;

    private WildCallTests(int seed) {
        random = new Random(seed);
        wildShare = random.nextInt(40);
    }

    public static void main(String[] args) {
        for (int seed = 1; seed <= RUNS; seed++) {
            Expect.part("run " + seed);
            WildCallTests run = new WildCallTests(seed);
            for (int i = 0; i < CALLS; i++) {
                run.guarded(run.random.nextInt(48));
            }
        }
        Expect.end();
    }

    private void guarded(int op) {
        try {
            if (op < 20) {
                tell(op);
            } else {
                ask(op);
            }
        } catch (RuntimeException | StackOverflowError e) {
            Expect.fault("call " + op + " throws " + e);
        }
    }

    private int n(int bound) {
        return random.nextInt(100) < wildShare ? WILD[random.nextInt(WILD.length)] : random.nextInt(bound);
    }

    private double v() {
        return random.nextInt(100) < wildShare ? WILD_VALUES[random.nextInt(WILD_VALUES.length)] : random.nextInt(12);
    }

    private long a() {
        return random.nextInt(100) < wildShare ? WILD_LONGS[random.nextInt(WILD_LONGS.length)] : random.nextInt(8);
    }

    private void tell(int op) {
        switch (op) {
            case 0 -> x.source(n(10));
            case 1, 2 -> x.rule(n(7) + 100 * (1 + n(20)), a(), n(8), 1 + n(4) + 100 * (1 + n(4)) + 10000 * (1 + n(5)), n(11) - 1);
            case 3 -> x.hold(n(16), n(16), n(3));
            case 4 -> x.silence(n(11) - 1, n(8) - 1, 1 + n(400), 1 + n(900), n(8));
            case 5 -> x.mask(n(8));
            case 6 -> x.waits(n(4), 1 + n(4), 1 + n(6), 1 + n(3));
            case 7 -> x.hand();
            case 8 -> x.shift(n(8), n(48), 1 + n(48), n(10));
            case 9 -> x.swap(n(8), n(8), 1 + n(400), 1 + n(900));
            case 10, 11, 12 -> x.value(n(16), v());
            case 13 -> x.tear(n(16));
            default -> x.tick();
        }
    }

    private void ask(int op) {
        switch (op) {
            case 20 -> x.truth(n(16), n(16));
            case 21 -> x.counts(n(16), n(16), n(4));
            case 22, 23 -> x.alarm(n(40), n(10));
            case 24, 25 -> x.letter(n(40), n(10));
            case 26 -> x.holds(n(40), n(5));
            case 27 -> x.why(n(40));
            case 28 -> x.whyNot(n(16), n(16));
            case 29 -> x.awake(n(402), n(9));
            case 30, 31 -> x.answer(n(40), n(8));
            case 32 -> x.noise(n(8));
            case 33 -> x.flap(n(16), n(400));
            case 34 -> x.least(n(16), n(12));
            case 35 -> x.count(n(10));
            case 36, 37, 38 -> x.keep(n(8), n(5), n(16));
            case 39 -> x.make(n(8), n(5), n(61));
            case 40, 41 -> element(n(8), n(61));
            case 42, 43 -> x.copy(n(8), n(20), n(8), n(20), n(20));
            case 44 -> x.weight(n(8));
            case 45 -> x.toss(n(8));
            case 46 -> x.copy(n(8), n(61), n(8), n(61), n(61));
            default -> {
                for (int s = 0; s < x.count(0); s++) {
                    x.value(s, v());
                }
            }
        }
    }

    private void element(int d, int i) {
        boolean board = d >= 0 && d <= 7;
        try {
            x.element(d, i);
        } catch (IllegalArgumentException e) {
            if (board) {
                throw e;
            }
        } catch (IllegalStateException e) {
            if (!board) {
                throw e;
            }
        }
    }
}
