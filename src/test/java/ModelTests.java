import java.util.ArrayList;
import java.util.List;
import java.util.Random;

/** Runs of calls, the same ones in every session: the program must answer each as the model does. */
public final class ModelTests {
    private static final int RUNS = 200;
    private static final int CALLS = 512;
    private static final int MAX_FAULTS = 3;

    private final Random random;
    private final AlarmTower tower = new AlarmTower();
    private final Model model = new Model();
    private final List<String> calls = new ArrayList<>();
    private boolean same = true;
    private final int tickShare;
    private final int span;
    /** Many sources and rules at few sites: rooms become full. */
    private final boolean crowded;
    /** Nearly all ticks are closed before the other calls come. */
    private final boolean late;

    private ModelTests(int seed) {
        random = new Random(seed);
        tickShare = 10 + random.nextInt(60);
        span = 3 + random.nextInt(20);
        crowded = seed % 6 == 0;
        late = seed % 8 == 0;
    }

    public static void main(String[] args) {
        int faults = 0;
        for (int seed = 1; seed <= RUNS && faults < MAX_FAULTS; seed++) {
            Expect.part("run " + seed);
            ModelTests run = new ModelTests(seed);
            run.all();
            faults += run.same ? 0 : 1;
        }
        Expect.end();
    }

    // ------------------------------------------------------------------ one call

    private void due(String call, long got, long want) {
        calls.add(call + " = " + got);
        if (got != want && same) {
            same = false;
            Expect.fault(call + " answered " + got + ", the model says " + want + "\n  " + String.join("\n  ", calls));
        }
    }

    private int any(int n) {
        return random.nextInt(n);
    }

    /** 0 .. n - 1, seldom something else. */
    private int mostly(int n) {
        int roll = any(60);
        if (roll == 0) {
            return -1 - any(2);
        }
        if (roll == 1) {
            return n + any(2);
        }
        return n <= 0 ? 0 : any(n);
    }

    private int between(int least, int most) {
        return least + mostly(most - least + 1);
    }

    private boolean hit(int ofHundred) {
        return any(100) < ofHundred;
    }

    // ------------------------------------------------------------------ a run

    private void all() {
        setUp();
        for (int i = calls.size(); i < CALLS && same; i++) {
            step();
        }
        askAll();
    }

    private void setUp() {
        int sources = crowded ? 8 + any(10) : 1 + any(hit(20) ? 17 : 5);
        for (int i = 0; i < sources; i++) {
            tellSource();
        }
        int rules = crowded ? 8 + any(10) : 1 + any(hit(20) ? 17 : 6);
        for (int i = 0; i < rules; i++) {
            tellRule();
        }
        int hands = any(6);
        for (int i = 0; i < hands; i++) {
            due("hand()", tower.hand(), model.hand());
            tellShift();
        }
        if (hit(70)) {
            tellWaits();
        }
        if (hit(70)) {
            tellMask();
        }
        int holds = any(5);
        for (int i = 0; i < holds; i++) {
            tellHold();
        }
        int ticks = late ? 350 + any(52) : 0;
        for (int i = 0; i < ticks; i++) {
            due("tick()", tower.tick(), model.tick());
        }
    }

    private void step() {
        int roll = any(100);
        if (roll < tickShare) {
            tellTick();
        } else if (roll < tickShare + (100 - tickShare) / 2) {
            tellValue();
        } else {
            tellOrAsk(any(34));
        }
    }

    private void tellTick() {
        // most sources tell a value in a tick, so that windows are not empty
        int share = any(100);
        for (int s = 0; s < tower.count(0); s++) {
            if (hit(share)) {
                tellValueOf(s);
            }
        }
        due("tick()", tower.tick(), model.tick());
        if (hit(10)) {
            askAll();
        }
    }

    private void tellOrAsk(int roll) {
        if (roll < 14) {
            tell(roll);
        } else {
            ask(roll);
        }
    }

    private void tell(int roll) {
        switch (roll) {
            case 0 -> tellRule();
            case 1, 2 -> tellHold();
            case 3, 4 -> tellSilence();
            case 5 -> tellMask();
            case 6 -> tellWaits();
            case 7 -> due("hand()", tower.hand(), model.hand());
            case 8 -> tellShift();
            case 9 -> tellSwap();
            case 10 -> tellTear();
            case 11 -> tellSource();
            default -> tellAnswer();
        }
    }

    private void ask(int roll) {
        switch (roll) {
            case 14 -> askTruth();
            case 15 -> askCounts();
            case 16 -> askAlarm();
            case 17 -> askLetter();
            case 18 -> askWhyNot();
            case 19 -> askAwake();
            case 20 -> askFlap();
            case 21 -> askLeast();
            case 22 -> askCount();
            case 23, 24, 25 -> tellKeep();
            case 26 -> tellMake();
            case 27, 28 -> askElement(mostly(8), mostly(12));
            case 29, 30 -> tellCopy();
            case 31 -> askBoard(mostly(8));
            default -> tellAnswer();
        }
    }

    // ------------------------------------------------------------------ what is told

    private void tellSource() {
        int site = hit(80) ? any(crowded ? 2 : 3) : between(0, 9);
        due("source(" + site + ")", tower.source(site), model.source(site));
    }

    private void tellRule() {
        int kind = mostly(7);
        int n = kind >= 2 && kind <= 5 ? between(1, hit(70) ? 4 : 20) : mostly(2);
        int what = kind + 100 * n;
        long a = kind == 6 ? mostly(tower.count(1)) : any(span) - any(3);
        int b = kind == 6 ? mostly(tower.count(1)) : kind == 3 ? between(1, 100) : (int) a - any(4) + (hit(3) ? 5 : 0);
        int how = between(1, hit(70) ? 3 : 10) + 100 * between(1, hit(70) ? 3 : 10) + 10000 * between(1, 5);
        int site = hit(60) ? -1 : hit(80) ? any(3) : between(-1, 9);
        due("rule(" + what + ", " + a + ", " + b + ", " + how + ", " + site + ")",
            tower.rule(what, a, b, how, site), model.rule(what, a, b, how, site));
    }

    private void tellHold() {
        int r = mostly(tower.count(1));
        int h = mostly(tower.count(1));
        int like = mostly(3);
        due("hold(" + r + ", " + h + ", " + like + ")", tower.hold(r, h, like), model.hold(r, h, like));
    }

    private void tellSilence() {
        int site = hit(30) ? -1 : hit(80) ? any(3) : between(-1, 9);
        int rule = hit(30) ? -1 : mostly(tower.count(1));
        int from = tower.count(3) + between(0, 6);
        int to = from + between(0, 12);
        int hand = mostly(tower.count(2));
        due("silence(" + site + ", " + rule + ", " + from + ", " + to + ", " + hand + ")",
            tower.silence(site, rule, from, to, hand), model.silence(site, rule, from, to, hand));
    }

    private void tellMask() {
        int m = mostly(8);
        due("mask(" + m + ")", tower.mask(m), model.mask(m));
    }

    private void tellWaits() {
        int f = hit(80) ? any(4) : between(0, 50);
        int a = hit(80) ? 1 + any(7) : between(1, 50);
        int e = hit(80) ? 1 + any(12) : between(1, 100);
        int u = hit(80) ? 1 + any(5) : between(1, 50);
        due("waits(" + f + ", " + a + ", " + e + ", " + u + ")", tower.waits(f, a, e, u), model.waits(f, a, e, u));
    }

    private void tellShift() {
        int hand = mostly(tower.count(2));
        int from = between(0, 47);
        int places = between(1, 48);
        int step = hit(60) ? any(3) : between(0, 9);
        due("shift(" + hand + ", " + from + ", " + places + ", " + step + ")",
            tower.shift(hand, from, places, step), model.shift(hand, from, places, step));
    }

    private void tellSwap() {
        int a = mostly(tower.count(2));
        int b = mostly(tower.count(2));
        int from = tower.count(3) + between(0, 10);
        int to = from + between(0, 30);
        due("swap(" + a + ", " + b + ", " + from + ", " + to + ")", tower.swap(a, b, from, to),
            model.swap(a, b, from, to));
    }

    private void tellValue() {
        tellValueOf(mostly(tower.count(0)));
    }

    private void tellValueOf(int s) {
        double v = any(span + 4) - 2 + (hit(20) ? 0.5 : 0);
        if (hit(2)) {
            double[] edges = {1e12, -1e12, 1.1e12, 0.0 / 0.0, -0.5};
            v = edges[any(edges.length)];
        }
        due("value(" + s + ", " + v + ")", tower.value(s, v), model.value(s, v));
    }

    private void tellTear() {
        int s = mostly(tower.count(0));
        due("tear(" + s + ")", tower.tear(s), model.tear(s));
    }

    private void tellAnswer() {
        int all = tower.count(6);
        int l = all > 4 && hit(70) ? all - 1 - any(4) : mostly(all);
        int h = mostly(tower.count(2));
        due("answer(" + l + ", " + h + ")", tower.answer(l, h), model.answer(l, h));
    }

    private void tellKeep() {
        int d = mostly(8);
        int what = mostly(5);
        int k = what == 1 ? mostly(tower.count(4)) : mostly(tower.count(0));
        due("keep(" + d + ", " + what + ", " + k + ")", tower.keep(d, what, k), model.keep(d, what, k));
    }

    private void tellMake() {
        int d = mostly(8);
        int what = hit(90) ? 3 + any(2) : any(6);
        int n = hit(80) ? any(12) : between(0, 60);
        due("make(" + d + ", " + what + ", " + n + ")", tower.make(d, what, n), model.make(d, what, n));
    }

    private void tellCopy() {
        int d = mostly(8);
        int i = mostly(8);
        int e = mostly(8);
        int j = mostly(8);
        int n = mostly(8);
        due("copy(" + d + ", " + i + ", " + e + ", " + j + ", " + n + ")", tower.copy(d, i, e, j, n),
            model.copy(d, i, e, j, n));
    }

    // ------------------------------------------------------------------ what is asked

    private void askTruth() {
        askPair(mostly(tower.count(1)), mostly(tower.count(0)));
    }

    private void askPair(int r, int s) {
        due("truth(" + r + ", " + s + ")", tower.truth(r, s), model.truth(r, s));
    }

    private void askCounts() {
        int r = mostly(tower.count(1));
        int s = mostly(tower.count(0));
        int what = mostly(3);
        due("counts(" + r + ", " + s + ", " + what + ")", tower.counts(r, s, what), model.counts(r, s, what));
    }

    private void askAlarm() {
        int a = mostly(tower.count(4));
        int what = mostly(9);
        due("alarm(" + a + ", " + what + ")", tower.alarm(a, what), model.alarm(a, what));
    }

    private void askLetter() {
        int l = mostly(tower.count(6));
        int what = mostly(9);
        due("letter(" + l + ", " + what + ")", tower.letter(l, what), model.letter(l, what));
        due("holds(" + l + ", " + what + ")", tower.holds(l, what), model.holds(l, what));
        due("why(" + l + ")", tower.why(l), model.why(l));
    }

    private void askWhyNot() {
        int r = mostly(tower.count(1));
        int s = mostly(tower.count(0));
        due("whyNot(" + r + ", " + s + ")", tower.whyNot(r, s), model.whyNot(r, s));
    }

    private void askAwake() {
        int t = hit(70) ? tower.count(3) + any(20) : between(1, 1000);
        int i = mostly(5);
        due("awake(" + t + ", " + i + ")", tower.awake(t, i), model.awake(t, i));
        int h = mostly(tower.count(2));
        due("noise(" + h + ")", tower.noise(h), model.noise(h));
    }

    private void askFlap() {
        int r = mostly(tower.count(1));
        int n = hit(80) ? 1 + any(10) : between(1, 2000);
        due("flap(" + r + ", " + n + ")", tower.flap(r, n), model.flap(r, n));
    }

    private void askLeast() {
        int r = mostly(tower.count(1));
        int p = between(1, 10);
        due("least(" + r + ", " + p + ")", tower.least(r, p), model.least(r, p));
    }

    private void askCount() {
        int what = mostly(9);
        due("count(" + what + ")", tower.count(what), model.count(what));
    }

    private static final long THROWS_ARGUMENT = Long.MIN_VALUE;
    private static final long THROWS_STATE = Long.MIN_VALUE + 1;

    private void askElement(int d, int i) {
        due("element(" + d + ", " + i + ")", elementOfTower(d, i), elementOfModel(d, i));
    }

    private long elementOfTower(int d, int i) {
        try {
            return tower.element(d, i);
        } catch (IllegalArgumentException e) {
            return THROWS_ARGUMENT;
        } catch (IllegalStateException e) {
            return THROWS_STATE;
        }
    }

    private long elementOfModel(int d, int i) {
        try {
            return model.element(d, i);
        } catch (IllegalArgumentException e) {
            return THROWS_ARGUMENT;
        } catch (IllegalStateException e) {
            return THROWS_STATE;
        }
    }

    private void askBoard(int d) {
        due("weight(" + d + ")", tower.weight(d), model.weight(d));
        due("toss(" + d + ")", tower.toss(d), model.toss(d));
    }

    // ------------------------------------------------------------------ everything at once

    private void askAll() {
        int kept = calls.size();
        for (int what = 0; what <= 8; what++) {
            due("count(" + what + ")", tower.count(what), model.count(what));
        }
        askPairs();
        askAlarms();
        askLetters();
        for (int h = 0; h < model.count(2); h++) {
            due("noise(" + h + ")", tower.noise(h), model.noise(h));
            due("awake(" + (model.count(3) + 1) + ", " + h + ")", tower.awake(model.count(3) + 1, h),
                model.awake(model.count(3) + 1, h));
        }
        for (int d = 0; d < 8; d++) {
            askBoard(d);
            for (int i = 0; i < 61; i++) {
                askElement(d, i);
            }
        }
        // only the calls that change something matter for a report
        while (calls.size() > kept) {
            calls.remove(calls.size() - 1);
        }
    }

    private void askPairs() {
        for (int r = 0; r < model.count(1); r++) {
            for (int s = 0; s < model.count(0); s++) {
                askPair(r, s);
                due("whyNot(" + r + ", " + s + ")", tower.whyNot(r, s), model.whyNot(r, s));
                for (int what = 0; what < 3; what++) {
                    due("counts(" + r + ", " + s + ", " + what + ")", tower.counts(r, s, what), model.counts(r, s, what));
                }
            }
            for (int p = 1; p <= 10; p += 3) {
                due("least(" + r + ", " + p + ")", tower.least(r, p), model.least(r, p));
            }
            due("flap(" + r + ", 5)", tower.flap(r, 5), model.flap(r, 5));
        }
    }

    private void askAlarms() {
        for (int a = 0; a < model.count(4); a++) {
            for (int what = 0; what <= 8; what++) {
                due("alarm(" + a + ", " + what + ")", tower.alarm(a, what), model.alarm(a, what));
            }
        }
    }

    private void askLetters() {
        for (int l = 0; l < model.count(6); l++) {
            for (int what = 0; what <= 8; what++) {
                due("letter(" + l + ", " + what + ")", tower.letter(l, what), model.letter(l, what));
            }
            for (int i = 0; i <= model.letter(l, 2); i++) {
                due("holds(" + l + ", " + i + ")", tower.holds(l, i), model.holds(l, i));
            }
            due("why(" + l + ")", tower.why(l), model.why(l));
        }
    }
}
