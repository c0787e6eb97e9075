/** What the tests of the promises share: towers that are made quickly, and ticks with values. */
class Towers {
    static final int MIN = Integer.MIN_VALUE;
    static final int MAX = Integer.MAX_VALUE;
    /** Told as a value, it stands for silence. */
    static final double SILENT = 0.0 / 0.0;

    static void due(String call, long got, long want) {
        Expect.due(call, got, want);
    }

    static void same(String call, String got, String want) {
        if (!got.equals(want)) {
            Expect.fault(call + " answered " + got + ", due is " + want);
        }
    }

    /** Sources at the sites told. */
    static AlarmTower tower(int... sites) {
        AlarmTower x = new AlarmTower();
        for (int site : sites) {
            x.source(site);
        }
        return x;
    }

    /** A rule that is true while the value is above 10; wait 1, end 1, grade 1. */
    static int plain(AlarmTower x) {
        return x.rule(0, 10, 0, 10101, -1);
    }

    static int ticks(AlarmTower x, int n) {
        int sent = 0;
        for (int i = 0; i < n; i++) {
            sent += x.tick();
        }
        return sent;
    }

    /** One tick, with the value told of a source. */
    static int tickWith(AlarmTower x, int source, double v) {
        x.value(source, v);
        return x.tick();
    }

    /** Ticks in which source 0 has the value 20. */
    static int ticks20(AlarmTower x, int n) {
        int sent = 0;
        for (int i = 0; i < n; i++) {
            sent += tickWith(x, 0, 20);
        }
        return sent;
    }

    /** One tick, with the values told of the sources, from 0 on. */
    static int tell(AlarmTower x, double... values) {
        for (int s = 0; s < values.length; s++) {
            if (values[s] == values[s]) {
                x.value(s, values[s]);
            }
        }
        return x.tick();
    }

    /** The truth in each tick of rule 0 for source 0, as a text of 1, 0 and -. */
    static String truths(AlarmTower x, double... values) {
        StringBuilder out = new StringBuilder();
        for (double v : values) {
            tell(x, v);
            int now = x.truth(0, 0);
            out.append(now == -1 ? '-' : (char) ('0' + now));
        }
        return out.toString();
    }

    /** The truths of one rule for one source. */
    static String truthsOf(int what, long a, int b, double... values) {
        AlarmTower x = tower(0);
        x.rule(what, a, b, 10101, -1);
        return truths(x, values);
    }

    /** In which ticks, from 1 on, letters were sent while source 0 has these values, as a text of digits. */
    static String sent(AlarmTower x, double... values) {
        StringBuilder out = new StringBuilder();
        for (double v : values) {
            out.append(tell(x, v));
        }
        return out.toString();
    }

    static double[] of(double v, int n) {
        double[] all = new double[n];
        java.util.Arrays.fill(all, v);
        return all;
    }

    /** 0 if the element is answered, 1 for IllegalArgumentException, 2 for IllegalStateException. */
    static int state(AlarmTower x, int d, int i) {
        try {
            x.element(d, i);
            return 0;
        } catch (IllegalArgumentException e) {
            return 1;
        } catch (IllegalStateException e) {
            return 2;
        }
    }

    /** The numbers of the alarms in a letter. */
    static String inLetter(AlarmTower x, int letter) {
        StringBuilder out = new StringBuilder();
        for (int i = 0; i < x.letter(letter, 2); i++) {
            out.append(i == 0 ? "" : " ").append(x.holds(letter, i));
        }
        return out.toString();
    }

    /** The hands that are awake at a tick, in their order, as a text of digits. */
    static String awakeAt(AlarmTower x, int tick) {
        StringBuilder out = new StringBuilder();
        for (int i = 0; i < 9 && x.awake(tick, i) >= 0; i++) {
            out.append(x.awake(tick, i));
        }
        return out.toString();
    }
}
