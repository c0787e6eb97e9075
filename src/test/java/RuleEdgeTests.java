/**
 * The terms of RULES, TRUTHS and ALARMS: for each sentence that names an edge a test of its own. A window's first and
 * last tick, equality at a limit, too few values, silence, counts that just reach a wait or don't.
 */
public final class RuleEdgeTests extends Towers {
    private static final double S = SILENT;

    private RuleEdgeTests() {
    }

    public static void main(String[] args) {
        silentIsNeither();
        overIsAbove();
        backIsAboveA();
        backIsNotBelowB();
        backOfTheLastTruth();
        rateIsAboveA();
        rateWithoutAValue();
        rateOfNTicksBefore();
        partOfExactlyB();
        partOfTheLatestN();
        partOfTheLatest2N();
        partOfTheValuesAlone();
        goneInNTicks();
        goneBeforeItCame();
        goneIsNeverNeither();
        oddByMoreThanA();
        oddBelow0CountsAs0();
        oddOfFewerThan3();
        oddOfTheNTicksBefore();
        oddOfTheMiddle();
        oddOfNotThis();
        bothOfEachPair();
        numbersAtTheirEnds();
        countsAt0AtFirst();
        countsStay();
        beginsAtP();
        endsAtE();
        oneAlarmAtATime();
        rulesByNumber();
        alarmsUpTo300();
        pendingWhileNoneLasts();
        Expect.end();
    }

    // ------------------------------------------------------------------ kinds 0 to 2

    private static void silentIsNeither() {
        Expect.part("terms: v is -1 if the SOURCE is SILENT (but by 4, 6)");
        AlarmTower x = tower(0);
        int[] whats = {0, 1, 102, 103, 104, 105, 6};
        for (int what : whats) {
            x.rule(what, 0, what == 103 ? 1 : 0, 10101, -1);
        }
        x.rule(6, 4, 4, 10101, -1);
        tell(x, 5);
        x.tick();
        int[] want = {-1, -1, -1, -1, 1, -1, -1, 1};
        for (int r = 0; r < want.length; r++) {
            due("truth of rule " + r + " in silence", x.truth(r, 0), want[r]);
        }
    }

    private static void overIsAbove() {
        Expect.part("terms: OVER: v is above a");
        same("a, a + 1, a - 1", truthsOf(0, 10, 0, 10, 11, 9), "010");
        same("below 0", truthsOf(0, -10, 0, -10, -9, -11), "010");
        same("0", truthsOf(0, 0, 0, 0, 1, -1, 0.99, -0.99), "01000");
        same("silence", truthsOf(0, 10, 0, S, 11, S), "-1-");
    }

    private static void backIsAboveA() {
        Expect.part("terms: BACK: v is above a");
        same("a at first", truthsOf(1, 30, 10, 30), "0");
        same("a + 1 at first", truthsOf(1, 30, 10, 31), "1");
        same("a + 1 behind a 0", truthsOf(1, 30, 10, 5, 31), "01");
        same("a behind a 0", truthsOf(1, 30, 10, 5, 30), "00");
    }

    private static void backIsNotBelowB() {
        Expect.part("terms: BACK: or it isn't below b, and the TRUTH was 1");
        same("b behind a 1", truthsOf(1, 30, 10, 31, 10), "11");
        same("b - 1 behind a 1", truthsOf(1, 30, 10, 31, 9), "10");
        same("b again and again", truthsOf(1, 30, 10, 31, 10, 10, 10), "1111");
        same("between, and a, behind a 1", truthsOf(1, 30, 10, 31, 20, 11, 30), "1111");
        same("far below b", truthsOf(1, 30, 10, 31, -100, 20), "100");
        same("b behind b - 1", truthsOf(1, 30, 10, 31, 9, 10), "100");
        same("b is a", truthsOf(1, 10, 10, 11, 10, 9, 10, 11), "11001");
        same("between at first", truthsOf(1, 30, 10, 20), "0");
    }

    private static void backOfTheLastTruth() {
        Expect.part("terms: BACK: in the last tick in which it was not -1");
        same("a 1, over silence", truthsOf(1, 30, 10, 31, S, S, 10), "1--1");
        same("a 0, over silence", truthsOf(1, 30, 10, 31, 9, S, S, 30), "10--0");
        same("none, over silence", truthsOf(1, 30, 10, S, S, 30), "--0");
    }

    private static void rateIsAboveA() {
        Expect.part("terms: RATE: v less the VALUE n ticks before is above a");
        same("a, a + 1, a - 1", truthsOf(102, 5, 0, 0, 5, 11, 15), "-010");
        same("below 0", truthsOf(102, -5, 0, 20, 15, 11, 5), "-010");
        same("a 0", truthsOf(102, 0, 0, 7, 7, 8, 7), "-010");
        same("a value of 0 before is one", truthsOf(102, 5, 0, 0, 6), "-1");
    }

    private static void rateWithoutAValue() {
        Expect.part("terms: RATE: -1 if there is none");
        same("before tick 1", truthsOf(302, 0, 0, 1, 2, 3, 4), "---1");
        same("silent n ticks before", truthsOf(202, 0, 0, 1, S, 2, 3), "--1-");
        same("silent now", truthsOf(102, 0, 0, 1, S, 2, 3), "---1");
    }

    private static void rateOfNTicksBefore() {
        Expect.part("terms: RATE: n ticks before, n 1 .. 20");
        same("n 1", truthsOf(102, 5, 0, 0, 0, 6, 6), "-010");
        same("n 2", truthsOf(202, 5, 0, 0, 9, 6, 9, 99), "--101");
        AlarmTower x = tower(0);
        x.rule(2002, 5, 0, 10101, -1);
        same("n 20, before", truths(x, of(7, 20)), "-".repeat(20));
        same("n 20", truths(x, 13, 12), "10");
    }

    // ------------------------------------------------------------------ kind 3

    private static void partOfExactlyB() {
        Expect.part("terms: PART: at least b of 100 are above a");
        same("1 of 2 is 50", truthsOf(203, 10, 50, 10, 11), "01");
        same("1 of 2 is not 51", truthsOf(203, 10, 51, 10, 11), "00");
        same("1 of 3 is 33", truthsOf(303, 10, 33, 10, 10, 11), "001");
        same("1 of 3 is not 34", truthsOf(303, 10, 34, 10, 10, 11), "000");
        same("2 of 3 is 66", truthsOf(303, 10, 66, 11, 11, 10), "111");
        same("2 of 3 is not 67", truthsOf(303, 10, 67, 11, 11, 10), "110");
        same("all is 100", truthsOf(203, 10, 100, 11, 11, 11, 11, 10), "11110");
        same("a is not above a", truthsOf(103, 10, 1, 10), "0");
        AlarmTower x = tower(0);
        x.rule(2003, 10, 3, 10101, -1);
        x.rule(2003, 10, 2, 10101, -1);
        tell(x, 11);
        sent(x, of(5, 32));
        due("1 of 20 would be 5, but it is behind", x.truth(0, 0), 0);
        tell(x, 11);
        due("2 of 34 is 5", x.truth(0, 0), 1);
        sent(x, of(5, 6));
        due("2 of 40 is 5", x.truth(0, 0), 1);
        tell(x, 5);
        due("1 of 40 is not 3", x.truth(0, 0), 0);
        due("1 of 40 is 2", x.truth(1, 0), 1);
    }

    private static void partOfTheLatestN() {
        Expect.part("terms: PART: the latest n ticks (with this one)");
        // n 2: the value 2 ticks before is not in the shorter window
        same("this one alone, n 1", truthsOf(103, 10, 100, 11, 11), "11");
        same("one before is in, n 2", truthsOf(203, 10, 50, 11, 5), "11");
        same("two before is out, n 2", truthsOf(203, 10, 25, 11, 5, 5), "110");
        same("two before is in, n 3", truthsOf(303, 10, 25, 11, 5, 5), "111");
        same("three before is out, n 3", truthsOf(303, 10, 25, 11, 5, 5, 5), "1110");
    }

    private static void partOfTheLatest2N() {
        Expect.part("terms: PART: and also of the latest 2 n");
        // n 1: now 11, one before 5: of 2 one is above
        same("the longer window, n 1", truthsOf(103, 10, 51, 5, 11), "00");
        same("the longer window, n 1", truthsOf(103, 10, 50, 5, 11), "01");
        // n 2, b 75: of the latest 4 at least 3
        same("three before is in, n 2", truthsOf(203, 10, 100, 5, 11, 11, 11), "0000");
        same("four before is out, n 2", truthsOf(203, 10, 100, 5, 11, 11, 11, 11), "00001");
        same("three of four, n 2", truthsOf(203, 10, 75, 5, 11, 11, 11), "0001");
        same("three of four are not 76, n 2", truthsOf(203, 10, 76, 5, 11, 11, 11), "0000");
    }

    private static void partOfTheValuesAlone() {
        Expect.part("terms: PART: of the VALUES");
        same("silent ticks do not count, n 3", truthsOf(303, 10, 50, 11, S, 5), "1-1");
        same("they take their place, n 2", truthsOf(203, 10, 50, 11, S, 5), "1-0");
        same("one value alone", truthsOf(2003, 10, 100, S, S, 11), "--1");
        AlarmTower x = tower(0);
        x.rule(2003, 10, 50, 10101, -1);
        tell(x, 11);
        ticks(x, 38);
        tell(x, 11);
        due("39 ticks before is in, n 20", x.truth(0, 0), 1);
        AlarmTower y = tower(0);
        y.rule(2003, 10, 51, 10101, -1);
        tell(y, 5);
        ticks(y, 38);
        tell(y, 11);
        due("39 ticks before is in, n 20", y.truth(0, 0), 0);
        tell(y, 11);
        due("40 ticks before is out, n 20", y.truth(0, 0), 1);
    }

    // ------------------------------------------------------------------ kinds 4 to 6

    private static void goneInNTicks() {
        Expect.part("terms: GONE: in this tick and the n - 1 before");
        same("n 1", truthsOf(104, 0, 0, 1, S, 1, S), "0101");
        same("n 2", truthsOf(204, 0, 0, 1, S, S, S, 1, S, S), "0011001");
        same("n 3", truthsOf(304, 0, 0, 1, S, S, S), "0001");
        AlarmTower x = tower(0);
        x.rule(2004, 0, 0, 10101, -1);
        tell(x, 0);
        ticks(x, 19);
        due("19 ticks before, n 20", x.truth(0, 0), 0);
        x.tick();
        due("20 ticks before, n 20", x.truth(0, 0), 1);
    }

    private static void goneBeforeItCame() {
        Expect.part("terms: GONE: ticks before it came, too");
        AlarmTower x = tower(0);
        x.rule(2004, 0, 0, 10101, -1);
        x.rule(104, 0, 0, 10101, -1);
        x.tick();
        due("in tick 1, n 20", x.truth(0, 0), 1);
        due("in tick 1, n 1", x.truth(1, 0), 1);
        ticks(x, 4);
        x.source(0);
        x.tick();
        due("one that came in tick 6", x.truth(0, 1), 1);
        due("its alarm", x.alarm(x.counts(0, 1, 2), 2), 6);
        x.source(0);
        x.value(2, 1);
        x.tick();
        due("one that came with a value", x.truth(0, 2), 0);
    }

    private static void goneIsNeverNeither() {
        Expect.part("terms: GONE: never -1");
        same("silent and not", truthsOf(304, 0, 0, S, S, S, S, 1, S, S, S, S), "111100011");
    }

    private static void oddByMoreThanA() {
        Expect.part("terms: ODD: by more than a");
        same("a above", truthsOf(305, 3, 0, 10, 10, 10, 13), "0000");
        same("a + 1 above", truthsOf(305, 3, 0, 10, 10, 10, 14), "0001");
        same("a below", truthsOf(305, 3, 0, 10, 10, 10, 7), "0000");
        same("a + 1 below", truthsOf(305, 3, 0, 10, 10, 10, 6), "0001");
        same("a 0", truthsOf(305, 0, 0, 10, 10, 10, 10, 11), "00001");
    }

    private static void oddBelow0CountsAs0() {
        Expect.part("terms: ODD: a below 0 counts as 0");
        same("-1", truthsOf(305, -1, 0, 10, 10, 10, 10, 11), "00001");
        same("the least", truthsOf(305, Long.MIN_VALUE, 0, 10, 10, 10, 10, 9), "00001");
    }

    private static void oddOfFewerThan3() {
        Expect.part("terms: ODD: 0, if these are fewer than 3");
        same("none, 1, 2, 3", truthsOf(2005, 0, 0, 10, 20, 30, 40), "0001");
        same("n 1", truthsOf(105, 0, 0, 10, 20, 30, 40, 50), "00000");
        same("n 2", truthsOf(205, 0, 0, 10, 20, 30, 40, 50), "00000");
        same("n 3", truthsOf(305, 0, 0, 10, 20, 30, 40, 50), "00011");
        same("n 3, one of them silent", truthsOf(305, 0, 0, 10, 20, 30, S, 50, 60, 70), "000-000");
        same("n 4, one of them silent", truthsOf(405, 0, 0, 10, 20, 30, S, 50), "000-1");
        same("silent now", truthsOf(305, 0, 0, 10, 20, 30, S), "000-");
    }

    private static void oddOfTheNTicksBefore() {
        Expect.part("terms: ODD: of the n ticks before");
        // before the fourth 5 5 9, before the fifth 5 9 9
        same("the nth is in, the next one out", truthsOf(305, 0, 0, 5, 5, 9, 9, 9), "00010");
        same("n 3", truthsOf(305, 0, 0, 5, 9, 9, 9), "0000");
        same("n 5", truthsOf(505, 0, 0, 5, 5, 5, 9, 9, 9), "000111");
        same("n 4", truthsOf(405, 0, 0, 5, 5, 5, 9, 9, 9, 9), "0001110");
        AlarmTower x = tower(0);
        x.rule(2005, 0, 0, 10101, -1);
        same("n 20, 10 and 10", truths(x, of(5, 10)), "0".repeat(10));
        same("the middle is still the lower one", truths(x, of(9, 10)), "1".repeat(10));
        same("10 of them, 10 of the other: the 10th", truths(x, 9, 9), "10");
    }

    private static void oddOfTheMiddle() {
        Expect.part("terms: MIDDLE: sorted, number (count - 1) / 2 (cut), from 0");
        same("of 3 the second", truthsOf(305, 0, 0, 30, 10, 20, 20), "0000");
        same("of 4 the second", truthsOf(405, 0, 0, 40, 10, 30, 20, 20), "00010");
        same("of 4 not the third", truthsOf(405, 0, 0, 40, 10, 30, 20, 30), "00011");
        same("of 5 the third", truthsOf(505, 0, 0, 50, 10, 40, 20, 30, 30), "000110");
        same("of 6 the third", truthsOf(605, 0, 0, 60, 50, 40, 30, 20, 10, 30), "0001110");
        same("with signs", truthsOf(305, 0, 0, -30, 10, -20, -20), "0000");
        same("of the same", truthsOf(405, 0, 0, 7, 7, 7, 7, 7), "00000");
        AlarmTower x = tower(0);
        x.rule(2005, 0, 0, 10101, -1);
        double[] down = new double[20];
        for (int i = 0; i < 20; i++) {
            down[i] = 20 - i;
        }
        truths(x, down);
        same("of 20 the tenth", truths(x, 10), "0");
    }

    private static void oddOfNotThis() {
        Expect.part("terms: ODD: the n ticks before, without this one");
        // before the fifth 1 1 9 9, the middle is 1; with this one it would be 9
        same("this one is not among them", truthsOf(405, 0, 0, 1, 1, 9, 9, 9), "00011");
    }

    private static void bothOfEachPair() {
        Expect.part("terms: BOTH: 1 if both are 1, 0 if one is 0, else -1");
        for (int one = -1; one <= 1; one++) {
            for (int other = -1; other <= 1; other++) {
                int want = one == 1 && other == 1 ? 1 : one == 0 || other == 0 ? 0 : -1;
                due("BOTH of " + one + " and " + other, bothOf(one, other), want);
            }
        }
    }

    /** RATE over one tick and over two give each pair: -1 where the source was silent then. */
    private static int bothOf(int one, int other) {
        AlarmTower x = tower(0);
        x.rule(102, 5, 0, 10101, -1);
        x.rule(202, 5, 0, 10101, -1);
        x.rule(6, 0, 1, 10101, -1);
        tell(x, other == -1 ? S : other == 1 ? 0 : 100);
        tell(x, one == -1 ? S : one == 1 ? 0 : 100);
        tell(x, 50);
        due("the one", x.truth(0, 0), one);
        due("the other", x.truth(1, 0), other);
        return x.truth(2, 0);
    }

    private static void numbersAtTheirEnds() {
        Expect.part("terms: values and limits at their ends");
        double most = 1000000000000.0;
        same("RATE from the least to the most", truthsOf(102, 1999999999999L, 0, -most, most), "-1");
        same("RATE, not above it", truthsOf(102, 2000000000000L, 0, -most, most), "-0");
        same("RATE down", truthsOf(102, -2000000000001L, 0, most, -most), "-1");
        same("RATE, a the greatest", truthsOf(102, Long.MAX_VALUE, 0, -most, most), "-0");
        same("RATE, a the least", truthsOf(102, Long.MIN_VALUE, 0, most, -most), "-1");
        same("ODD", truthsOf(305, 1999999999999L, 0, most, most, most, -most), "0001");
        same("ODD, not more", truthsOf(305, 2000000000000L, 0, most, most, most, -most), "0000");
        same("OVER, a beyond an int", truthsOf(0, 999999999999L, 0, most, 999999999999.0), "10");
        same("BACK, a beyond an int", truthsOf(1, 999999999999L, MAX, most, MAX, 2147483646.0), "110");
        same("PART, a beyond an int", truthsOf(103, 999999999999L, 100, most, most), "11");
    }

    // ------------------------------------------------------------------ counts and alarms

    private static String counts(AlarmTower x) {
        return x.counts(0, 0, 0) + " " + x.counts(0, 0, 1) + " " + x.counts(0, 0, 2);
    }

    private static void countsAt0AtFirst() {
        Expect.part("terms: TRUES and FALSES count, both 0 at first");
        AlarmTower x = tower(0, 5);
        x.rule(0, 10, 0, 10202, 0);
        same("at first", counts(x), "0 0 -2");
        tell(x, 20, 20);
        same("true", counts(x), "1 0 -2");
        due("of a source that it doesn't look at", x.counts(0, 1, 0), 0);
        due("of a source that it doesn't look at", x.counts(0, 1, 1), 0);
        due("of a source that it doesn't look at", x.counts(0, 1, 2), -2);
        tell(x, 5, 5);
        same("false", counts(x), "0 1 -2");
        due("of a source that it doesn't look at", x.counts(0, 1, 1), 0);
        plain(x);
        due("of a rule that came just now", x.counts(1, 0, 0), 0);
    }

    private static void countsStay() {
        Expect.part("terms: TRUTH -1: both stay");
        AlarmTower x = tower(0);
        x.rule(0, 10, 0, 10303, -1);
        tell(x, 20);
        ticks(x, 5);
        same("over silence", counts(x), "1 0 -2");
        tell(x, 20);
        x.tick();
        same("over silence", counts(x), "2 0 -2");
        tell(x, 20);
        same("it begins", counts(x), "3 0 0");
        tell(x, 5);
        ticks(x, 5);
        same("over silence", counts(x), "0 1 0");
        tell(x, 5);
        x.tick();
        same("over silence", counts(x), "0 2 0");
        tell(x, 20);
        same("a 1 sets FALSES to 0", counts(x), "1 0 0");
        tell(x, 5);
        same("a 0 sets TRUES to 0", counts(x), "0 1 0");
        tell(x, 5);
        tell(x, 5);
        same("it ends", counts(x), "0 3 -2");
        tell(x, 5);
        same("and counts on", counts(x), "0 4 -2");
    }

    private static void beginsAtP() {
        Expect.part("terms: TRUES is p or more: one begins in that tick");
        AlarmTower x = tower(0);
        x.rule(0, 10, 0, 10103, -1);
        ticks20(x, 2);
        due("p - 1", x.count(4), 0);
        tell(x, 5);
        ticks20(x, 2);
        due("p - 1 again", x.count(4), 0);
        ticks20(x, 1);
        due("p", x.count(4), 1);
        due("in that tick", x.alarm(0, 2), 6);
        ticks20(x, 9);
        due("while it lasts none begins", x.count(4), 1);
    }

    private static void endsAtE() {
        Expect.part("terms: FALSES is e or more: it ends in that tick");
        AlarmTower x = tower(0);
        x.rule(0, 10, 0, 10301, -1);
        ticks20(x, 1);
        sent(x, 5, 5, 20, 5, 5);
        due("e - 1", x.alarm(0, 3), 0);
        due("it lasts", x.count(5), 1);
        tell(x, 5);
        due("e", x.alarm(0, 3), 7);
        due("it doesn't last", x.count(5), 0);
        sent(x, of(5, 5));
        due("its end stays", x.alarm(0, 3), 7);
    }

    private static void oneAlarmAtATime() {
        Expect.part("terms: if no ALARM of them lasts one begins");
        AlarmTower x = tower(0, 0);
        plain(x);
        plain(x);
        tell(x, 20, 20);
        due("one of each rule and source", x.count(4), 4);
        tell(x, 20, 20);
        due("not another", x.count(4), 4);
        tell(x, 5);
        tell(x, 20);
        due("another, of those that ended", x.count(4), 6);
        due("the one that lasts", x.counts(0, 0, 2), 4);
        due("the one that lasts", x.counts(0, 1, 2), 1);
    }

    private static void rulesByNumber() {
        Expect.part("terms: RULES by number, of each all SOURCES by number");
        AlarmTower x = tower(7, 3, 5);
        plain(x);
        plain(x);
        tell(x, 20, 20, 20);
        for (int a = 0; a < 6; a++) {
            due("rule of alarm " + a, x.alarm(a, 0), a / 3);
            due("source of alarm " + a, x.alarm(a, 1), a % 3);
        }
    }

    private static void alarmsUpTo300() {
        Expect.part("terms: ALARMS at most 300 (one more doesn't begin as long as there are so many)");
        AlarmTower x = new AlarmTower();
        for (int i = 0; i < 16; i++) {
            x.source(0);
            x.rule(104, 0, 0, 10101, -1);
        }
        x.waits(50, 50, 100, 50);
        x.tick();
        for (int s = 0; s < 16; s++) {
            x.value(s, 1);
        }
        x.tick();
        due("256 began and ended", x.count(4) * 1000 + x.count(5), 256000);
        for (int s = 11; s < 16; s++) {
            x.value(s, 1);
        }
        for (int r = 0; r < 2; r++) {
            due("alarms of rule " + r + " before", x.counts(r, 0, 2), -2);
        }
        x.tick();
        // of each rule 11 sources: rules 0 to 3 make 44
        due("300 began", x.count(4), 300);
        due("the last one is of rule 3", x.alarm(299, 0), 3);
        due("and source 10", x.alarm(299, 1), 10);
        due("rule 4: none", x.counts(4, 0, 2), -2);
        due("though TRUES is p", x.counts(4, 0, 0), 1);
        due("alarm(300, 0)", x.alarm(300, 0), -1);
        for (int s = 0; s < 16; s++) {
            x.value(s, 1);
        }
        x.tick();
        due("they end as ever", x.count(5), 0);
        x.tick();
        due("though none lasts, there are so many", x.count(4), 300);
    }

    private static void pendingWhileNoneLasts() {
        Expect.part("terms: PENDING, while none lasts, and TRUES is above 0");
        AlarmTower x = tower(0);
        x.rule(0, 10, 0, 10203, -1);
        due("TRUES 0", x.whyNot(0, 0), 0);
        ticks20(x, 1);
        due("TRUES 1", x.whyNot(0, 0), 1);
        x.tick();
        due("TRUES 1 over silence", x.whyNot(0, 0), 1);
        tell(x, 5);
        due("TRUES 0 again", x.whyNot(0, 0), 0);
        ticks20(x, 3);
        due("one lasts", x.whyNot(0, 0), 5);
        tell(x, 5);
        due("one lasts, TRUES 0", x.whyNot(0, 0), 5);
        tell(x, 5);
        due("it ended", x.whyNot(0, 0), 0);
    }
}
