import java.util.IdentityHashMap;
import java.util.List;
import java.util.Map;
import java.util.function.Consumer;
import java.util.function.ToIntFunction;

/**
 * Each refusal of each promise: the answer that the document gives for it, on either side of what is allowed; where two
 * meet in one call, the one that stands first; and that the refused call changed nothing.
 */
public final class RefusalTests extends Towers {
    private static final Map<Consumer<AlarmTower>, List<String>> BEFORE = new IdentityHashMap<>();

    private static final Consumer<AlarmTower> NEW = x -> {
    };
    private static final Consumer<AlarmTower> BUSY = RefusalTests::busy;
    private static final Consumer<AlarmTower> ENDED = RefusalTests::ended;

    private RefusalTests() {
    }

    public static void main(String[] args) {
        refusalsOfSource();
        refusalsOfRule();
        refusalsOfHold();
        refusalsOfSilence();
        refusalsOfMask();
        refusalsOfWaits();
        refusalsOfHand();
        refusalsOfShift();
        refusalsOfSwap();
        refusalsOfValue();
        refusalsOfTear();
        refusalsOfTick();
        refusalsOfTruth();
        refusalsOfCounts();
        refusalsOfAlarm();
        refusalsOfLetter();
        refusalsOfHolds();
        refusalsOfWhy();
        refusalsOfWhyNot();
        refusalsOfAwake();
        refusalsOfAnswer();
        refusalsOfNoise();
        refusalsOfFlap();
        refusalsOfLeast();
        refusalsOfCount();
        refusalsOfKeep();
        refusalsOfMake();
        refusalsOfElement();
        refusalsOfCopy();
        refusalsOfWeight();
        refusalsOfToss();
        questionsChangeNothing();
        Expect.end();
    }

    // ------------------------------------------------------------------ the towers

    /** Some of everything; the boards: nothing, alarm, note, longs, booleans, longs, booleans, nothing. */
    private static void busy(AlarmTower x) {
        x.source(0);
        x.source(0);
        x.source(1);
        x.rule(0, 10, 0, 10101, -1);
        x.rule(1, 30, 10, 20202, -1);
        x.rule(104, 0, 0, 30101, 1);
        x.hold(0, 1, 2);
        x.hand();
        x.hand();
        x.hand();
        x.shift(0, 0, 48, 1);
        x.shift(1, 40, 20, 0);
        x.swap(0, 1, 3, 4);
        x.silence(1, 1, 2, 3, 0);
        x.waits(0, 2, 4, 2);
        tell(x, 20, 40);
        tell(x, 20, 5, 5);
        tell(x, 5, 50);
        x.answer(0, 1);
        tell(x, 20, 50, 5);
        x.keep(1, 1, 0);
        x.keep(2, 2, 7);
        x.keep(3, 3, 0);
        x.keep(4, 4, 1);
        x.make(5, 3, 3);
        x.make(6, 4, 60);
        x.value(0, 33);
    }

    private static void ended(AlarmTower x) {
        x.source(0);
        plain(x);
        x.hand();
        x.shift(0, 0, 48, 0);
        x.value(0, 20);
        ticks(x, 400);
    }

    private static Consumer<AlarmTower> repeated(int n, Consumer<AlarmTower> first, Consumer<AlarmTower> each) {
        return x -> {
            first.accept(x);
            for (int i = 0; i < n; i++) {
                each.accept(x);
            }
        };
    }

    // ------------------------------------------------------------------ the check

    private static void refused(Consumer<AlarmTower> calls, String call, ToIntFunction<AlarmTower> act, int want) {
        AlarmTower x = new AlarmTower();
        calls.accept(x);
        due(call, act.applyAsInt(x), want);
        changesNothing(calls, call, act);
    }

    private static void changesNothing(Consumer<AlarmTower> calls, String call, ToIntFunction<AlarmTower> act) {
        List<String> before = BEFORE.computeIfAbsent(calls, Answers::of);
        List<String> after = Answers.of(x -> {
            calls.accept(x);
            act.applyAsInt(x);
        });
        for (int i = 0; i < before.size(); i++) {
            same(call + " changed something: ", after.get(i), before.get(i));
        }
    }

    private static String text(String name, Object... arguments) {
        return name + java.util.Arrays.toString(arguments);
    }

    // ------------------------------------------------------------------ 2 to 13

    private static void source(Consumer<AlarmTower> calls, int site, int want) {
        refused(calls, text("source", site), x -> x.source(site), want);
    }

    private static void refusalsOfSource() {
        Expect.part("2 source, refused");
        for (int site : new int[] {-1, 10, MIN, MAX}) {
            source(NEW, site, -1);
            source(BUSY, site, -1);
        }
        Consumer<AlarmTower> full = repeated(16, NEW, x -> x.source(3));
        source(full, 0, -2);
        source(full, 9, -2);
        source(full, -1, -1);
        source(full, 10, -1);
    }

    private static void rule(Consumer<AlarmTower> calls, int what, long a, int b, int how, int site, int want) {
        refused(calls, text("rule", what, a, b, how, site), x -> x.rule(what, a, b, how, site), want);
    }

    private static void refusalsOfRule() {
        Expect.part("3 rule, refused");
        // kinds that are none, and no windows
        for (int what : new int[] {-1, 7, 8, 9, 10, 16, 99, 107, 2, 3, 4, 5, 2102, 2103, 2104, 2105, 10002, MIN, MAX}) {
            rule(BUSY, what, 50, 50, 10101, -1, -1);
        }
        // p, e and GRADE
        for (int how : new int[] {10100, 10111, 10001, 11101, 101, 60101, 1010101, 0, -1, -10101, MIN, MAX}) {
            rule(BUSY, 0, 50, 50, how, -1, -1);
        }
        for (int site : new int[] {-2, 10, MIN, MAX}) {
            rule(BUSY, 0, 50, 50, 10101, site, -1);
        }
        rule(BUSY, 1, 50, 51, 10101, -1, -1);
        rule(BUSY, 1, Long.MIN_VALUE, MIN, 10101, -1, -1);
        rule(BUSY, 1, -5, -4, 10101, -1, -1);
        for (int b : new int[] {0, 101, -1, MIN, MAX}) {
            rule(BUSY, 103, 50, b, 10101, -1, -1);
        }
        for (long a : new long[] {-1, 3, 4, 1L << 32, (1L << 32) + 1, Long.MIN_VALUE, Long.MAX_VALUE}) {
            rule(BUSY, 6, a, 0, 10101, -1, -1);
        }
        for (int b : new int[] {-1, 3, 4, MIN, MAX}) {
            rule(BUSY, 6, 0, b, 10101, -1, -1);
        }
        rule(NEW, 6, 0, 0, 10101, -1, -1);
        Consumer<AlarmTower> full = repeated(16, NEW, Towers::plain);
        rule(full, 0, 50, 50, 10101, -1, -2);
        rule(full, 6, 15, 15, 10101, -1, -2);
        rule(full, 7, 50, 50, 10101, -1, -1);
        rule(full, 2, 50, 50, 10101, -1, -1);
        rule(full, 0, 50, 50, 10100, -1, -1);
        rule(full, 0, 50, 50, 10101, 10, -1);
        rule(full, 1, 50, 51, 10101, -1, -1);
        rule(full, 103, 50, 101, 10101, -1, -1);
        rule(full, 6, 16, 0, 10101, -1, -1);
        rule(full, 6, 0, 16, 10101, -1, -1);
    }

    private static void hold(Consumer<AlarmTower> calls, int r, int h, int like, int want) {
        refused(calls, text("hold", r, h, like), x -> x.hold(r, h, like), want);
    }

    private static void refusalsOfHold() {
        Expect.part("4 hold, refused");
        for (int none : new int[] {-1, 3, 16, MIN, MAX}) {
            hold(BUSY, none, 0, 0, -1);
            hold(BUSY, 2, none, 0, -1);
        }
        for (int like : new int[] {-1, 3, MIN, MAX}) {
            hold(BUSY, 2, 1, like, -1);
        }
        hold(BUSY, 2, 2, 0, -1);
        hold(NEW, 0, 1, 0, -1);
        hold(BUSY, 1, 0, 0, -3);
        hold(BUSY, 1, 0, 1, -3);
        hold(BUSY, 1, 0, 2, -3);
        hold(BUSY, 1, 0, 3, -1);
        Consumer<AlarmTower> row = x -> {
            busy(x);
            x.hold(1, 2, 0);
        };
        hold(row, 2, 0, 0, -3);
        hold(row, 2, 1, 0, -3);
        hold(row, 2, 2, 0, -1);
        Consumer<AlarmTower> full = repeated(39, BUSY, x -> x.hold(0, 1, 1));
        hold(full, 0, 2, 0, -2);
        hold(full, 0, 1, 2, -2);
        hold(full, 1, 0, 0, -2);
        hold(full, 0, 3, 0, -1);
        hold(full, 3, 0, 0, -1);
        hold(full, 2, 2, 0, -1);
        hold(full, 0, 2, 3, -1);
        hold(full, 1, 0, 3, -1);
    }

    private static void silence(Consumer<AlarmTower> calls, int site, int rule, int from, int to, int hand, int want) {
        refused(calls, text("silence", site, rule, from, to, hand), x -> x.silence(site, rule, from, to, hand), want);
    }

    private static void refusalsOfSilence() {
        Expect.part("5 silence, refused");
        refusedSilences(BUSY);
        silence(NEW, -1, -1, 1, 1000, 0, -1);
        Consumer<AlarmTower> full = repeated(19, BUSY, x -> x.silence(5, -1, 1, 1, 0));
        silence(full, -1, -1, 1, 1000, 0, -2);
        silence(full, 9, 2, 1000, 1000, 2, -2);
        refusedSilences(full);
    }

    private static void refusedSilences(Consumer<AlarmTower> calls) {
        for (int none : new int[] {-2, 10, MIN, MAX}) {
            silence(calls, none, -1, 1, 1000, 0, -1);
        }
        for (int none : new int[] {-2, 3, MIN, MAX}) {
            silence(calls, -1, none, 1, 1000, 0, -1);
        }
        for (int from : new int[] {0, -1, 1001, MIN, MAX}) {
            silence(calls, -1, -1, from, 1000, 0, -1);
        }
        for (int to : new int[] {0, 4, 1001, MIN, MAX}) {
            silence(calls, -1, -1, 5, to, 0, -1);
        }
        silence(calls, -1, -1, 1001, 1001, 0, -1);
        silence(calls, -1, -1, 0, 0, 0, -1);
        for (int none : new int[] {-1, 3, MIN, MAX}) {
            silence(calls, -1, -1, 1, 1000, none, -1);
        }
    }

    private static void refusalsOfMask() {
        Expect.part("6 mask, refused");
        for (int mask : new int[] {-1, 8, MIN, MAX}) {
            refused(NEW, text("mask", mask), x -> x.mask(mask), -1);
            refused(BUSY, text("mask", mask), x -> x.mask(mask), -1);
        }
        for (int mask = 0; mask <= 7; mask++) {
            int told = mask;
            refused(BUSY, text("mask", mask), x -> x.mask(told), -3);
        }
    }

    private static void waits(int first, int again, int each, int up) {
        refused(BUSY, text("waits", first, again, each, up), x -> x.waits(first, again, each, up), -1);
        refused(NEW, text("waits", first, again, each, up), x -> x.waits(first, again, each, up), -1);
    }

    private static void refusalsOfWaits() {
        Expect.part("7 waits, refused");
        for (int none : new int[] {-1, 51, MIN, MAX}) {
            waits(none, 1, 1, 1);
        }
        for (int none : new int[] {0, -1, 51, MIN, MAX}) {
            waits(0, none, 1, 1);
            waits(0, 1, 1, none);
        }
        for (int none : new int[] {0, -1, 101, MIN, MAX}) {
            waits(0, 1, none, 1);
        }
    }

    private static void refusalsOfHand() {
        Expect.part("8 hand, refused");
        refused(repeated(8, NEW, AlarmTower::hand), "hand", AlarmTower::hand, -2);
        refused(repeated(5, BUSY, AlarmTower::hand), "hand", AlarmTower::hand, -2);
    }

    private static void shift(Consumer<AlarmTower> calls, int hand, int from, int places, int step, int want) {
        refused(calls, text("shift", hand, from, places, step), x -> x.shift(hand, from, places, step), want);
    }

    private static void refusalsOfShift() {
        Expect.part("9 shift, refused");
        refusedShifts(BUSY);
        shift(NEW, 0, 0, 1, 0, -1);
        Consumer<AlarmTower> full = repeated(38, BUSY, x -> x.shift(2, 0, 1, 9));
        shift(full, 0, 0, 1, 0, -2);
        shift(full, 2, 47, 48, 9, -2);
        refusedShifts(full);
    }

    private static void refusedShifts(Consumer<AlarmTower> calls) {
        for (int none : new int[] {-1, 3, 8, MIN, MAX}) {
            shift(calls, none, 0, 48, 0, -1);
        }
        for (int from : new int[] {-1, 48, MIN, MAX}) {
            shift(calls, 0, from, 48, 0, -1);
        }
        for (int places : new int[] {0, -1, 49, MIN, MAX}) {
            shift(calls, 0, 0, places, 0, -1);
        }
        for (int step : new int[] {-1, 10, MIN, MAX}) {
            shift(calls, 0, 0, 48, step, -1);
        }
    }

    private static void swap(Consumer<AlarmTower> calls, int a, int b, int from, int to, int want) {
        refused(calls, text("swap", a, b, from, to), x -> x.swap(a, b, from, to), want);
    }

    private static void refusalsOfSwap() {
        Expect.part("10 swap, refused");
        refusedSwaps(BUSY);
        swap(NEW, 0, 1, 1, 1000, -1);
        Consumer<AlarmTower> full = repeated(19, BUSY, x -> x.swap(0, 2, 900, 900));
        swap(full, 0, 1, 1, 1000, -2);
        swap(full, 2, 0, 1000, 1000, -2);
        refusedSwaps(full);
    }

    private static void refusedSwaps(Consumer<AlarmTower> calls) {
        for (int none : new int[] {-1, 3, 8, MIN, MAX}) {
            swap(calls, none, 0, 1, 1000, -1);
            swap(calls, 0, none, 1, 1000, -1);
        }
        swap(calls, 0, 0, 1, 1000, -1);
        for (int from : new int[] {0, -1, 1001, MIN, MAX}) {
            swap(calls, 0, 1, from, 1000, -1);
        }
        for (int to : new int[] {0, 4, 1001, MIN, MAX}) {
            swap(calls, 0, 1, 5, to, -1);
        }
        swap(calls, 0, 1, 1001, 1001, -1);
        swap(calls, 0, 1, 0, 0, -1);
    }

    private static void value(Consumer<AlarmTower> calls, int source, double v, int want) {
        refused(calls, text("value", source, v), x -> x.value(source, v), want);
    }

    private static void refusalsOfValue() {
        Expect.part("11 value, refused");
        double beyond = 1000000000000.0001;
        double[] bad = {SILENT, 1.0 / 0.0, -1.0 / 0.0, beyond, -beyond, 1e13, -1e13, Double.MAX_VALUE, -Double.MAX_VALUE};
        for (int none : new int[] {-1, 3, 16, MIN, MAX}) {
            value(BUSY, none, 1, -1);
            value(BUSY, none, SILENT, -1);
            value(BUSY, none, 1e13, -1);
        }
        for (double v : bad) {
            value(BUSY, 0, v, -2);
            value(BUSY, 1, v, -2);
        }
        value(NEW, 0, 1, -1);
        value(ENDED, 0, 1, -2);
        value(ENDED, 0, SILENT, -2);
        value(ENDED, 1, 1, -1);
        value(ENDED, -1, SILENT, -1);
    }

    private static void refusalsOfTear() {
        Expect.part("12 tear, refused");
        for (int none : new int[] {-1, 3, 16, MIN, MAX}) {
            refused(BUSY, text("tear", none), x -> x.tear(none), -1);
        }
        refused(NEW, text("tear", 0), x -> x.tear(0), -1);
        refused(ENDED, text("tear", 1), x -> x.tear(1), -1);
    }

    private static void refusalsOfTick() {
        Expect.part("13 tick, refused");
        refused(ENDED, "tick", AlarmTower::tick, -2);
        refused(repeated(400, NEW, AlarmTower::tick), "tick", AlarmTower::tick, -2);
    }

    // ------------------------------------------------------------------ 14 to 26

    private static final Consumer<AlarmTower> UNTICKED = x -> {
        x.source(0);
        plain(x);
        x.value(0, 20);
    };

    private static void refusalsOfTruth() {
        Expect.part("14 truth, refused");
        for (int none : new int[] {-1, 3, 15, 16, MIN, MAX}) {
            refused(BUSY, text("truth", none, 0), x -> x.truth(none, 0), -2);
            refused(BUSY, text("truth", 0, none), x -> x.truth(0, none), -2);
            refused(UNTICKED, text("truth", none, 0), x -> x.truth(none, 0), -2);
            refused(UNTICKED, text("truth", 0, none), x -> x.truth(0, none), -2);
        }
        refused(NEW, text("truth", 0, 0), x -> x.truth(0, 0), -2);
        refused(UNTICKED, text("truth", 0, 0), x -> x.truth(0, 0), -3);
    }

    private static void counts(int rule, int source, int what, int want) {
        refused(BUSY, text("counts", rule, source, what), x -> x.counts(rule, source, what), want);
    }

    private static void refusalsOfCounts() {
        Expect.part("15 counts, refused");
        for (int none : new int[] {-1, 3, 15, 16, MIN, MAX}) {
            for (int what = 0; what <= 2; what++) {
                counts(none, 0, what, -1);
                counts(0, none, what, -1);
            }
            counts(0, 0, none, -1);
        }
        counts(2, 0, 2, -2);
        counts(2, 0, 3, -1);
    }

    private static void refusalsOfAlarm() {
        Expect.part("16 alarm, refused");
        for (int none : new int[] {-1, 300, MIN, MAX}) {
            for (int what = 0; what <= 8; what++) {
                int asked = what;
                refused(BUSY, text("alarm", none, what), x -> x.alarm(none, asked), -1);
            }
        }
        for (int what : new int[] {-1, 9, MIN, MAX}) {
            refused(BUSY, text("alarm", 0, what), x -> x.alarm(0, what), -1);
        }
        refused(BUSY, "alarm, one more than there are", x -> x.alarm(x.count(4), 0), -1);
        refused(NEW, text("alarm", 0, 0), x -> x.alarm(0, 0), -1);
    }

    private static void refusalsOfLetter() {
        Expect.part("17 letter, refused");
        for (int none : new int[] {-1, 200, MIN, MAX}) {
            for (int what = 0; what <= 8; what++) {
                int asked = what;
                refused(BUSY, text("letter", none, what), x -> x.letter(none, asked), -1);
            }
        }
        for (int what : new int[] {-1, 9, MIN, MAX}) {
            refused(BUSY, text("letter", 0, what), x -> x.letter(0, what), -1);
        }
        refused(BUSY, "letter, one more than there are", x -> x.letter(x.count(6), 0), -1);
        refused(NEW, text("letter", 0, 1), x -> x.letter(0, 1), -1);
    }

    private static void refusalsOfHolds() {
        Expect.part("18 holds, refused");
        for (int none : new int[] {-1, 200, MIN, MAX}) {
            refused(BUSY, text("holds", none, 0), x -> x.holds(none, 0), -1);
            refused(BUSY, text("holds", 0, none), x -> x.holds(0, none), -1);
        }
        refused(BUSY, "holds, one more than are in it", x -> x.holds(0, x.letter(0, 2)), -1);
        refused(BUSY, "holds, one more than there are", x -> x.holds(x.count(6), 0), -1);
        refused(NEW, text("holds", 0, 0), x -> x.holds(0, 0), -1);
    }

    private static void refusalsOfWhy() {
        Expect.part("19 why, refused");
        for (int none : new int[] {-1, 200, MIN, MAX}) {
            refused(BUSY, text("why", none), x -> x.why(none), -1);
        }
        refused(BUSY, "why, one more than there are", x -> x.why(x.count(6)), -1);
        refused(NEW, text("why", 0), x -> x.why(0), -1);
    }

    private static void refusalsOfWhyNot() {
        Expect.part("20 whyNot, refused");
        for (int none : new int[] {-1, 3, 15, 16, MIN, MAX}) {
            refused(BUSY, text("whyNot", none, 0), x -> x.whyNot(none, 0), -1);
            refused(BUSY, text("whyNot", 0, none), x -> x.whyNot(0, none), -1);
        }
        refused(NEW, text("whyNot", 0, 0), x -> x.whyNot(0, 0), -1);
    }

    private static void awake(Consumer<AlarmTower> calls, int tick, int i, int want) {
        refused(calls, text("awake", tick, i), x -> x.awake(tick, i), want);
    }

    private static void refusalsOfAwake() {
        Expect.part("21 awake, refused");
        for (int tick : new int[] {0, -1, 1001, MIN, MAX}) {
            awake(BUSY, tick, 0, -1);
            awake(BUSY, tick, 8, -1);
        }
        for (int i : new int[] {-1, MIN}) {
            awake(BUSY, 1, i, -1);
            awake(NEW, 1, i, -1);
        }
        // at tick 20 hand 0 alone, at tick 40 hands 1 and 0
        for (int i : new int[] {2, 7, 8, MAX}) {
            awake(BUSY, 40, i, -2);
        }
        awake(BUSY, 20, 1, -2);
        awake(NEW, 1, 0, -2);
        awake(NEW, 1000, 0, -2);
        awake(NEW, 0, 0, -1);
    }

    private static void answer(int letter, int hand, int want) {
        refused(BUSY, text("answer", letter, hand), x -> x.answer(letter, hand), want);
    }

    private static void refusalsOfAnswer() {
        Expect.part("22 answer, refused");
        for (int none : new int[] {-1, 200, MIN, MAX}) {
            answer(none, 0, -1);
        }
        for (int none : new int[] {-1, 3, 8, MIN, MAX}) {
            answer(0, none, -1);
            answer(1, none, -1);
        }
        refused(BUSY, "answer, one more than there are", x -> x.answer(x.count(6), 0), -1);
        refused(NEW, text("answer", 0, 0), x -> x.answer(0, 0), -1);
        // letter 0 went to hand 1, then to hand 0; hand 1 answered it
        answer(0, 1, -3);
        answer(0, 0, -3);
        answer(0, 2, -2);
        answer(1, 2, -2);
    }

    private static void refusalsOfNoise() {
        Expect.part("23 noise, refused");
        for (int none : new int[] {-1, 3, 8, MIN, MAX}) {
            refused(BUSY, text("noise", none), x -> x.noise(none), -1);
        }
        refused(NEW, text("noise", 0), x -> x.noise(0), -1);
    }

    private static void refusalsOfFlap() {
        Expect.part("24 flap, refused");
        for (int none : new int[] {-1, 3, 16, MIN, MAX}) {
            refused(BUSY, text("flap", none, 1), x -> x.flap(none, 1), -1);
        }
        for (int n : new int[] {0, -1, 2001, MIN, MAX}) {
            refused(BUSY, text("flap", 0, n), x -> x.flap(0, n), -1);
        }
        refused(NEW, text("flap", 0, 1), x -> x.flap(0, 1), -1);
    }

    private static void refusalsOfLeast() {
        Expect.part("25 least, refused");
        for (int none : new int[] {-1, 3, 16, MIN, MAX}) {
            refused(BUSY, text("least", none, 1), x -> x.least(none, 1), -1);
        }
        for (int p : new int[] {0, -1, 11, MIN, MAX}) {
            refused(BUSY, text("least", 0, p), x -> x.least(0, p), -1);
        }
        refused(NEW, text("least", 0, 1), x -> x.least(0, 1), -1);
    }

    private static void refusalsOfCount() {
        Expect.part("26 count, refused");
        for (int what : new int[] {-1, 9, MIN, MAX}) {
            refused(BUSY, text("count", what), x -> x.count(what), -1);
            refused(NEW, text("count", what), x -> x.count(what), -1);
        }
    }

    // ------------------------------------------------------------------ 27 to 32

    private static void keep(Consumer<AlarmTower> calls, int d, int what, int k) {
        refused(calls, text("keep", d, what, k), x -> x.keep(d, what, k), -1);
    }

    private static void refusalsOfKeep() {
        Expect.part("27 keep, refused");
        for (int none : new int[] {-1, 8, MIN, MAX}) {
            for (int what = 0; what <= 4; what++) {
                keep(BUSY, none, what, 0);
            }
        }
        for (int d = 0; d <= 4; d++) {
            for (int what : new int[] {-1, 5, MIN, MAX}) {
                keep(BUSY, d, what, 0);
            }
            for (int k : new int[] {-1, 300, MIN, MAX}) {
                keep(BUSY, d, 1, k);
            }
            for (int k : new int[] {-1, 3, 16, MIN, MAX}) {
                keep(BUSY, d, 3, k);
                keep(BUSY, d, 4, k);
            }
        }
        refused(BUSY, "keep, one alarm more than there are", x -> x.keep(3, 1, x.count(4)), -1);
        keep(NEW, 0, 1, 0);
        keep(NEW, 0, 3, 0);
        keep(NEW, 0, 4, 0);
    }

    private static void make(int d, int what, int n, int want) {
        refused(BUSY, text("make", d, what, n), x -> x.make(d, what, n), want);
    }

    private static void refusalsOfMake() {
        Expect.part("28 make, refused");
        for (int none : new int[] {-1, 8, MIN, MAX}) {
            make(none, 3, 1, -1);
            make(none, 3, -1, -1);
            make(none, 4, MIN, -1);
        }
        for (int what : new int[] {0, 1, 2, 5, -1, MIN, MAX}) {
            make(3, what, 1, -1);
            make(3, what, -1, -1);
        }
        for (int d = 0; d <= 4; d++) {
            make(d, 3, 61, -1);
            make(d, 4, 61, -1);
            make(d, 3, MAX, -1);
            make(d, 3, -1, -14);
            make(d, 4, -1, -14);
            make(d, 4, MIN, -14);
        }
    }

    /** 1 is IllegalArgumentException, 2 IllegalStateException. */
    private static void element(Consumer<AlarmTower> calls, int d, int i, int want) {
        refused(calls, text("element", d, i), x -> state(x, d, i), want);
    }

    private static void refusalsOfElement() {
        Expect.part("29 element, refused");
        for (int none : new int[] {-1, 8, MIN, MAX}) {
            element(BUSY, none, 0, 1);
            element(BUSY, none, -1, 1);
            element(NEW, none, 60, 1);
        }
        for (int d : new int[] {0, 1, 2, 7}) {
            element(BUSY, d, 0, 2);
            element(BUSY, d, -1, 2);
        }
        // four ticks are closed; the rows that were made have 3 places and 60
        for (int i : new int[] {-1, 4, 60, MIN, MAX}) {
            element(BUSY, 3, i, 2);
            element(BUSY, 4, i, 2);
        }
        element(BUSY, 5, 3, 2);
        element(BUSY, 6, 60, 2);
        element(NEW, 0, 0, 2);
    }

    private static void copy(int d, int i, int e, int j, int n, int want) {
        refused(BUSY, text("copy", d, i, e, j, n), x -> x.copy(d, i, e, j, n), want);
    }

    private static void refusalsOfCopy() {
        Expect.part("30 copy, refused");
        for (int none : new int[] {-1, 8, MIN, MAX}) {
            copy(none, 0, 3, 0, 1, -1);
            copy(3, 0, none, 0, 1, -1);
            // no board, and nothing held, another kind, no such place
            copy(none, 0, 0, 0, 1, -1);
            copy(0, 0, none, 0, 1, -1);
            copy(none, 0, 2, 0, 1, -1);
            copy(2, 0, none, 0, 1, -1);
            copy(3, 0, none, 0, -1, -1);
        }
        copy(0, 0, 3, 0, 1, -11);
        copy(3, 0, 0, 0, 1, -11);
        copy(0, 0, 0, 0, 0, -11);
        copy(0, 0, 7, 0, 0, -11);
        // nothing held, and another kind, no such place
        for (int other : new int[] {1, 2}) {
            copy(0, 0, other, 0, 1, -11);
            copy(other, 0, 0, 0, 1, -11);
        }
        copy(0, -1, 3, 0, 1, -11);
        copy(3, 9, 0, 0, 1, -11);
        for (int other : new int[] {1, 2}) {
            for (int row = 3; row <= 6; row++) {
                copy(other, 0, row, 0, 1, -12);
                copy(row, 0, other, 0, 1, -12);
                copy(row, 9, other, -1, -1, -12);
            }
            copy(other, 0, other, 0, 0, -12);
        }
        copy(1, 0, 2, 0, 0, -12);
        copy(3, 0, 4, 0, 1, -12);
        copy(4, 0, 3, 0, 1, -12);
        copy(3, 0, 4, 0, 0, -12);
        copy(4, -1, 5, 0, 1, -12);
        refusedPlaces();
    }

    /** Row 3 has 4 places, row 5 has 3, both of longs. */
    private static void refusedPlaces() {
        int[][] bad = {{0, 0, -1}, {-1, 0, 1}, {0, -1, 1}, {-1, -1, -1}, {4, 0, 1}, {0, 3, 1}, {0, 0, 4}, {2, 0, 3}, {0, 1, 3},
            {5, 0, 0}, {0, 4, 0}, {-1, 0, 0}, {0, -1, 0}, {MAX, 0, 1}, {0, MAX, 1}, {1, 0, MAX}, {1, 1, MAX}, {0, 0, MAX},
            {MIN, 0, 1}, {0, MIN, 1}, {0, 0, MIN}, {MAX, MAX, MAX}, {MIN, MIN, MIN}, {MAX, 0, MAX}, {MIN, 0, MIN}};
        for (int[] b : bad) {
            copy(3, b[0], 5, b[1], b[2], -13);
        }
        copy(5, 3, 3, 0, 1, -13);
        copy(5, 0, 3, 4, 1, -13);
        copy(3, 0, 3, 1, 4, -13);
        copy(3, 1, 3, 0, 4, -13);
        copy(4, 0, 6, 0, 5, -13);
        copy(6, 0, 4, 0, 5, -13);
        copy(6, 59, 4, 0, 2, -13);
        copy(4, 0, 6, 60, 1, -13);
    }

    private static void refusalsOfWeight() {
        Expect.part("31 weight, refused");
        for (int none : new int[] {-1, 8, MIN, MAX}) {
            refused(BUSY, text("weight", none), x -> x.weight(none), -1);
        }
        for (int d : new int[] {0, 7}) {
            refused(BUSY, text("weight", d), x -> x.weight(d), -11);
        }
        for (int d : new int[] {2, 3, 4, 5, 6}) {
            refused(BUSY, text("weight", d), x -> x.weight(d), -12);
        }
    }

    private static void refusalsOfToss() {
        Expect.part("32 toss, refused");
        for (int none : new int[] {-1, 8, MIN, MAX}) {
            refused(BUSY, text("toss", none), x -> x.toss(none), -1);
        }
        for (int d : new int[] {0, 7}) {
            refused(BUSY, text("toss", d), x -> x.toss(d), -11);
        }
        for (int d : new int[] {2, 3, 4, 5, 6}) {
            refused(BUSY, text("toss", d), x -> x.toss(d), -12);
        }
        // alarm 0 is one of rule 0, of kind 0
        refused(BUSY, text("toss", 1), x -> x.toss(1), -15);
    }

    /** What is only asked changes nothing, too. */
    private static void questionsChangeNothing() {
        Expect.part("14 to 32, asked");
        changesNothing(BUSY, "truth", x -> x.truth(0, 0));
        changesNothing(BUSY, "counts", x -> x.counts(0, 0, 0));
        changesNothing(BUSY, "alarm", x -> x.alarm(0, 0));
        changesNothing(BUSY, "letter", x -> x.letter(0, 0));
        changesNothing(BUSY, "holds", x -> x.holds(0, 0));
        changesNothing(BUSY, "why", x -> x.why(0));
        changesNothing(BUSY, "whyNot", x -> x.whyNot(0, 0));
        changesNothing(BUSY, "awake", x -> x.awake(1000, 0));
        changesNothing(BUSY, "noise", x -> x.noise(0));
        changesNothing(BUSY, "flap", x -> x.flap(0, 1));
        changesNothing(BUSY, "least", x -> x.least(1, 1));
        changesNothing(BUSY, "count", x -> x.count(0));
        changesNothing(BUSY, "element", x -> state(x, 3, 0));
        changesNothing(BUSY, "weight", x -> x.weight(1));
        changesNothing(BUSY, "toss", x -> x.toss(1));
    }
}
