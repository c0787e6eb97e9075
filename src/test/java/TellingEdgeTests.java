/**
 * Promises 1 to 13, and the terms of sources, hands and ticks: for each sentence that names an edge a test of its own,
 * with the last thing that is allowed and what it does. What lies beyond an edge stands in RefusalTests as well.
 */
public final class TellingEdgeTests extends Towers {

    private TellingEdgeTests() {
    }

    public static void main(String[] args) {
        tickOneIsOpen();
        atFirstThereIsNothing();
        sourcesFrom0To15();
        sitesFrom0To9();
        rulesFrom0To15();
        kindsFrom0To6();
        windowsFrom1To20();
        windowIsOfKinds2To5();
        waitsOfRulesFrom1To10();
        endsOfRulesFrom1To10();
        gradesFrom1To5();
        rulesOfOneSite();
        backNotAbove();
        partFrom1To100();
        bothOfRulesBefore();
        othersAny();
        holdsUpTo40();
        holdsOfThemselves();
        holdsInAnyOrder();
        holdsBesideEachOther();
        silencesUpTo20();
        silenceTicksFrom1To1000();
        silenceOfAnySite();
        silenceOfAnyRule();
        silenceByAnyHand();
        masksFrom0To7();
        maskWithoutAnAlarm();
        waitsWithinTheirRanges();
        waitsAtFirst();
        handsFrom0To7();
        shiftPlacesFrom0To47();
        shiftOf1To48Places();
        shiftGoesRound();
        stepsFrom0To9();
        shiftsUpTo40();
        swapTicksFrom1To1000();
        swapsUpTo20();
        swapsOneAfterTheOther();
        valueIsCut();
        valueWithin();
        valueWhetherItHadNone();
        valueUpTo400();
        tearWhetherItHadOne();
        ticksUpTo400();
        tickCountsLetters();
        Expect.end();
    }

    // ------------------------------------------------------------------ 1, 2

    private static void tickOneIsOpen() {
        Expect.part("1: tick 1 is open");
        AlarmTower x = tower(0);
        plain(x);
        x.waits(0, 1, 1, 1);
        due("count(3)", x.count(3), 0);
        due("tick", tell(x, 11), 1);
        due("the tick of the alarm", x.alarm(0, 2), 1);
        due("the tick of the letter", x.letter(0, 0), 1);
        due("count(3)", x.count(3), 1);
        tell(x, 9);
        due("then tick 2", x.alarm(0, 3), 2);
    }

    private static void atFirstThereIsNothing() {
        Expect.part("1: there is nothing");
        AlarmTower x = new AlarmTower();
        for (int what = 0; what <= 8; what++) {
            due("count(" + what + ")", x.count(what), 0);
        }
        for (int d = 0; d <= 7; d++) {
            due("weight(" + d + ")", x.weight(d), -11);
            due("toss(" + d + ")", x.toss(d), -11);
            due("element(" + d + ", 0)", state(x, d, 0), 2);
        }
        for (int t : new int[] {1, 48, 1000}) {
            due("awake(" + t + ", 0)", x.awake(t, 0), -2);
        }
        due("an empty tick", x.tick(), 0);
        for (int what = 0; what <= 8; what++) {
            due("count(" + what + ") behind it", x.count(what), what == 3 ? 1 : 0);
        }
    }

    private static void sourcesFrom0To15() {
        Expect.part("2: sources 0 .. 15; there are 16");
        AlarmTower x = new AlarmTower();
        for (int s = 0; s <= 15; s++) {
            due("source " + s, x.source(0), s);
            due("count(0)", x.count(0), s + 1);
        }
        due("source 16", x.source(0), -2);
        due("count(0)", x.count(0), 16);
        plain(x);
        due("value of source 15", x.value(15, 20), 1);
        due("value of source 16", x.value(16, 20), -1);
        x.tick();
        due("truth for source 15", x.truth(0, 15), 1);
        due("its alarm", x.alarm(0, 1), 15);
    }

    private static void sitesFrom0To9() {
        Expect.part("2: sites 0 .. 9");
        AlarmTower x = tower(0, 9);
        due("count(0)", x.count(0), 2);
        x.rule(0, 10, 0, 10101, 0);
        x.rule(0, 10, 0, 10101, 9);
        tell(x, 20, 20);
        due("site 0", x.truth(0, 0), 1);
        due("site 9", x.truth(1, 1), 1);
        due("site 0 is not 9", x.truth(1, 0), -1);
        due("site 9 is not 0", x.truth(0, 1), -1);
        due("source(-1)", x.source(-1), -1);
        due("source(10)", x.source(10), -1);
    }

    // ------------------------------------------------------------------ 3

    private static void rulesFrom0To15() {
        Expect.part("3: rules 0 .. 15; there are 16");
        AlarmTower x = tower(0);
        for (int r = 0; r <= 15; r++) {
            due("rule " + r, plain(x), r);
            due("count(1)", x.count(1), r + 1);
        }
        due("rule 16", plain(x), -2);
        due("count(1)", x.count(1), 16);
        tell(x, 20);
        due("truth of rule 15", x.truth(15, 0), 1);
        due("truth of rule 16", x.truth(16, 0), -2);
        due("its alarm", x.alarm(15, 0), 15);
    }

    private static void kindsFrom0To6() {
        Expect.part("3: KIND 0 .. 6");
        AlarmTower x = tower(0);
        for (int kind = 0; kind <= 6; kind++) {
            due("kind " + kind, x.rule(100 + kind, 0, 0 + (kind == 3 ? 1 : 0), 10101, -1), kind);
        }
        due("kind 7", x.rule(107, 0, 0, 10101, -1), -1);
        due("kind -1", x.rule(-1, 0, 0, 10101, -1), -1);
        due("kind 99", x.rule(99, 0, 0, 10101, -1), -1);
    }

    private static void windowsFrom1To20() {
        Expect.part("3: n 1 .. 20");
        for (int kind = 2; kind <= 5; kind++) {
            AlarmTower x = tower(0);
            due("n 0 of kind " + kind, x.rule(kind, 0, 1, 10101, -1), -1);
            due("n 1 of kind " + kind, x.rule(100 + kind, 0, 1, 10101, -1), 0);
            due("n 20 of kind " + kind, x.rule(2000 + kind, 0, 1, 10101, -1), 1);
            due("n 21 of kind " + kind, x.rule(2100 + kind, 0, 1, 10101, -1), -1);
        }
    }

    private static void windowIsOfKinds2To5() {
        Expect.part("3: n (of 2 to 5)");
        AlarmTower x = tower(0);
        due("kind 0 without n", x.rule(0, 0, 0, 10101, -1), 0);
        due("kind 1 without n", x.rule(1, 0, 0, 10101, -1), 1);
        due("kind 6 without n", x.rule(6, 0, 1, 10101, -1), 2);
        due("kind 0 with an n that others may not have", x.rule(2100, 0, 0, 10101, -1), 3);
        due("kind 1 with an n that others may not have", x.rule(2101, 0, 0, 10101, -1), 4);
        due("kind 6 with an n that others may not have", x.rule(2106, 0, 1, 10101, -1), 5);
        tell(x, 1);
        for (int r = 0; r <= 5; r++) {
            due("truth of rule " + r, x.truth(r, 0), 1);
        }
    }

    private static void waitsOfRulesFrom1To10() {
        Expect.part("3: p 1 .. 10");
        for (int p : new int[] {1, 2, 9, 10}) {
            AlarmTower x = tower(0);
            due("p " + p, x.rule(0, 10, 0, 10100 + p, -1), 0);
            ticks20(x, p - 1);
            due("alarms behind tick p - 1, p " + p, x.count(4), 0);
            ticks20(x, 1);
            due("alarms behind tick p, p " + p, x.count(4), 1);
        }
        due("p 0", tower(0).rule(0, 10, 0, 10100, -1), -1);
        due("p 11", tower(0).rule(0, 10, 0, 10111, -1), -1);
    }

    private static void endsOfRulesFrom1To10() {
        Expect.part("3: e 1 .. 10");
        for (int e : new int[] {1, 2, 9, 10}) {
            AlarmTower x = tower(0);
            due("e " + e, x.rule(0, 10, 0, 10001 + 100 * e, -1), 0);
            ticks20(x, 1);
            sent(x, of(5, e - 1));
            due("it lasts behind e - 1 ticks, e " + e, x.count(5), 1);
            tell(x, 5);
            due("it ended behind e ticks, e " + e, x.count(5), 0);
            due("its end, e " + e, x.alarm(0, 3), 1 + e);
        }
        due("e 0", tower(0).rule(0, 10, 0, 10001, -1), -1);
        due("e 11", tower(0).rule(0, 10, 0, 11101, -1), -1);
    }

    private static void gradesFrom1To5() {
        Expect.part("3: GRADE 1 .. 5");
        AlarmTower x = tower(0);
        for (int grade = 1; grade <= 5; grade++) {
            due("grade " + grade, x.rule(0, 10, 0, 10000 * grade + 101, -1), grade - 1);
        }
        due("grade 0", x.rule(0, 10, 0, 101, -1), -1);
        due("grade 6", x.rule(0, 10, 0, 60101, -1), -1);
        tell(x, 20);
        for (int grade = 1; grade <= 5; grade++) {
            due("grade of alarm " + (grade - 1), x.alarm(grade - 1, 4), grade);
        }
        due("all at their most: p 10, e 10, grade 5", x.rule(0, 10, 0, 51010, -1), 5);
    }

    private static void rulesOfOneSite() {
        Expect.part("3: SITE (-1: all)");
        AlarmTower x = tower(0, 9, 4);
        x.rule(0, 10, 0, 10101, -1);
        x.rule(0, 10, 0, 10101, 0);
        x.rule(0, 10, 0, 10101, 9);
        due("site -2", x.rule(0, 10, 0, 10101, -2), -1);
        due("site 10", x.rule(0, 10, 0, 10101, 10), -1);
        tell(x, 20, 20, 20);
        int[][] want = {{1, 1, 1}, {1, -1, -1}, {-1, 1, -1}};
        for (int r = 0; r < 3; r++) {
            for (int s = 0; s < 3; s++) {
                due("truth(" + r + ", " + s + ")", x.truth(r, s), want[r][s]);
            }
        }
    }

    private static void backNotAbove() {
        Expect.part("3: BACK (b not above a)");
        AlarmTower x = tower(0);
        due("b is a", x.rule(1, 10, 10, 10101, -1), 0);
        due("b is a + 1", x.rule(1, 10, 11, 10101, -1), -1);
        due("b is a - 1", x.rule(1, 10, 9, 10101, -1), 1);
        due("below 0", x.rule(1, -10, -10, 10101, -1), 2);
        due("below 0, above", x.rule(1, -10, -9, 10101, -1), -1);
        due("a beyond an int", x.rule(1, 1L << 40, MAX, 10101, -1), 3);
        due("a beyond an int", x.rule(1, -1L << 40, MIN, 10101, -1), -1);
        due("the least", x.rule(1, MIN, MIN, 10101, -1), 4);
        due("the most", x.rule(1, MAX, MAX, 10101, -1), 5);
    }

    private static void partFrom1To100() {
        Expect.part("3: PART (b 1 .. 100)");
        AlarmTower x = tower(0);
        due("b 0", x.rule(103, 10, 0, 10101, -1), -1);
        due("b 1", x.rule(103, 10, 1, 10101, -1), 0);
        due("b 100", x.rule(103, 10, 100, 10101, -1), 1);
        due("b 101", x.rule(103, 10, 101, 10101, -1), -1);
        // one of two above: enough for 1 of 100, not for 100
        tell(x, 5);
        due("none of 1", x.truth(0, 0), 0);
        tell(x, 20);
        due("one of 2, b 1", x.truth(0, 0), 1);
        due("one of 2, b 100", x.truth(1, 0), 0);
        tell(x, 20);
        due("two of 2, b 100", x.truth(1, 0), 1);
    }

    private static void bothOfRulesBefore() {
        Expect.part("3: BOTH of rules that came before it");
        AlarmTower x = tower(0);
        due("of none", x.rule(6, 0, 0, 10101, -1), -1);
        plain(x);
        due("of -1", x.rule(6, -1, 0, 10101, -1), -1);
        due("of -1", x.rule(6, 0, -1, 10101, -1), -1);
        due("of itself", x.rule(6, 1, 0, 10101, -1), -1);
        due("of itself", x.rule(6, 0, 1, 10101, -1), -1);
        due("of one, twice", x.rule(6, 0, 0, 10101, -1), 1);
        due("of the latest one", x.rule(6, 1, 1, 10101, -1), 2);
        due("of one that is far", x.rule(6, 1L << 32, 0, 10101, -1), -1);
        for (int r = 3; r <= 15; r++) {
            due("of the one before it", x.rule(6, r - 1, 0, 10101, -1), r);
        }
        tell(x, 20);
        due("over all of them, in one tick", x.truth(15, 0), 1);
        tell(x, 5);
        due("over all of them, in one tick", x.truth(15, 0), 0);
        x.tick();
        due("over all of them, in one tick", x.truth(15, 0), -1);
    }

    private static void othersAny() {
        Expect.part("3: a, b as told (of others any)");
        AlarmTower x = tower(0);
        long[] anyA = {Long.MIN_VALUE, Long.MAX_VALUE, 0, -1};
        int r = 0;
        for (long a : anyA) {
            due("OVER any a, b", x.rule(0, a, MIN, 10101, -1), r++);
            due("RATE any a, b", x.rule(102, a, MAX, 10101, -1), r++);
            due("ODD any a, b", x.rule(105, a, -1, 10101, -1), r++);
        }
        due("GONE any a, b", x.rule(104, Long.MIN_VALUE, MIN, 10101, -1), r++);
        due("PART any a", x.rule(103, Long.MIN_VALUE, 100, 10101, -1), r++);
        due("PART any a", x.rule(103, Long.MAX_VALUE, 1, 10101, -1), r++);
        tell(x, 0);
        tell(x, 0);
        // OVER and RATE of the least number, the greatest, 0, -1
        int[] over = {1, 0, 0, 1};
        for (int i = 0; i < 4; i++) {
            due("OVER " + anyA[i], x.truth(3 * i, 0), over[i]);
            due("RATE " + anyA[i], x.truth(3 * i + 1, 0), over[i]);
            due("ODD " + anyA[i], x.truth(3 * i + 2, 0), 0);
        }
        due("PART of the least", x.truth(13, 0), 1);
        due("PART of the greatest", x.truth(14, 0), 0);
    }

    // ------------------------------------------------------------------ 4

    private static void holdsUpTo40() {
        Expect.part("4: there are 40 such");
        AlarmTower x = tower(0);
        for (int r = 0; r <= 15; r++) {
            plain(x);
        }
        int told = 0;
        for (int r = 1; r <= 15 && told < 40; r++) {
            for (int h = 0; h < r && told < 40; h++) {
                due("hold " + told, x.hold(r, h, told % 3), 0);
                told++;
            }
        }
        due("hold 40", x.hold(15, 0, 0), -2);
        due("hold 40, out of range", x.hold(15, 16, 0), -1);
        tell(x, 20);
        due("the 40th holds", x.alarm(9, 5), 1);
        due("what was refused doesn't", x.alarm(15, 5), 0);
    }

    private static void holdsOfThemselves() {
        Expect.part("4: r would hold itself by that, over others");
        AlarmTower x = tower(0);
        for (int r = 0; r <= 15; r++) {
            plain(x);
        }
        due("itself", x.hold(0, 0, 0), -1);
        for (int r = 0; r < 15; r++) {
            due("a row of them", x.hold(r, r + 1, r % 3), 0);
        }
        due("over one", x.hold(1, 0, 0), -3);
        due("over 14 others", x.hold(15, 0, 0), -3);
        due("over 13 others", x.hold(15, 1, 2), -3);
        due("over none: the same again", x.hold(0, 1, 0), 0);
        due("past the others", x.hold(0, 15, 0), 0);
        due("over none", x.hold(14, 15, 1), 0);
    }

    private static void holdsInAnyOrder() {
        Expect.part("4: r would hold itself, whatever their numbers and the order of the calls");
        int[][] orders = {{0, 1, 2, 3}, {3, 2, 1, 0}, {2, 0, 3, 1}, {1, 3, 0, 2}};
        for (int[] o : orders) {
            for (int first = 0; first < 3; first++) {
                AlarmTower x = tower(0);
                for (int r = 0; r < 6; r++) {
                    plain(x);
                }
                // each of the row is held by the next one
                for (int i = 0; i < 3; i++) {
                    int at = (first + i) % 3;
                    due("hold", x.hold(o[at], o[at + 1], i), 0);
                }
                for (int i = 0; i < 4; i++) {
                    for (int j = 0; j < 4; j++) {
                        int want = i == j ? -1 : i > j ? -3 : 0;
                        due("hold(" + o[i] + ", " + o[j] + ")", x.hold(o[i], o[j], 0), want);
                    }
                    due("one beside the row holds", x.hold(o[i], 5, 0), 0);
                    due("one beside the row is held", x.hold(4, o[i], 0), 0);
                    due("it would hold itself", x.hold(o[i], 4, 0), -3);
                    due("it would hold itself", x.hold(5, o[i], 0), -3);
                }
            }
        }
    }

    private static void holdsBesideEachOther() {
        Expect.part("4: a RULE is held by more than one");
        for (int like = 0; like <= 2; like++) {
            AlarmTower x = tower(0);
            plain(x);
            x.rule(0, 50, 0, 10101, -1);
            x.rule(0, 90, 0, 10101, -1);
            due("by rule 2", x.hold(0, 2, like), 0);
            due("and by rule 1", x.hold(0, 1, like), 0);
            tell(x, 60);
            due("rule 1 alone", x.alarm(0, 5), 1);
            tell(x, 95);
            due("both", x.alarm(0, 5), 1);
            tell(x, 20);
            due("none", x.alarm(0, 5), 0);
            AlarmTower y = tower(0);
            y.rule(0, 20, 0, 10101, -1);
            y.rule(0, 50, 0, 10101, -1);
            y.rule(1, 40, 30, 10101, -1);
            due("by rule 2", y.hold(0, 2, like), 0);
            due("and by rule 1", y.hold(0, 1, like), 0);
            tell(y, 45);
            due("rule 2 alone", y.alarm(0, 5), 1);
        }
    }

    // ------------------------------------------------------------------ 5

    private static void silencesUpTo20() {
        Expect.part("5: there are 20");
        AlarmTower x = tower(3);
        plain(x);
        x.hand();
        for (int i = 0; i < 19; i++) {
            due("silence " + i, x.silence(4, -1, 1, 1000, 0), i);
        }
        due("silence 19", x.silence(3, -1, 2, 2, 0), 19);
        due("silence 20", x.silence(3, -1, 1, 1000, 0), -2);
        tell(x, 20);
        due("the one that was refused doesn't go", x.alarm(0, 6), 0);
        tell(x, 20);
        due("the 20th goes", x.alarm(0, 6), 1);
    }

    private static void silenceTicksFrom1To1000() {
        Expect.part("5: from a tick to one that isn't before it (both 1 .. 1000)");
        AlarmTower x = tower(0);
        plain(x);
        x.hand();
        due("1 to 1000", x.silence(9, -1, 1, 1000, 0), 0);
        due("1000 to 1000", x.silence(0, -1, 1000, 1000, 0), 1);
        due("of one tick", x.silence(0, -1, 1, 1, 0), 2);
        due("from 3 to 4", x.silence(0, -1, 3, 4, 0), 3);
        due("0 to 1", x.silence(0, -1, 0, 1, 0), -1);
        due("1 to 1001", x.silence(0, -1, 1, 1001, 0), -1);
        due("4 to 3", x.silence(0, -1, 4, 3, 0), -1);
        int[] want = {1, 0, 1, 1, 0};
        for (int t = 1; t <= 5; t++) {
            tell(x, 20);
            due("silenced in tick " + t, x.alarm(0, 6), want[t - 1]);
        }
    }

    private static void silenceOfAnySite() {
        Expect.part("5: of its SITE or any");
        for (int site : new int[] {-1, 0, 9, 5}) {
            AlarmTower x = tower(0, 9);
            plain(x);
            x.hand();
            due("silence at " + site, x.silence(site, 0, 1, 1, 0), 0);
            tell(x, 20, 20);
            due("silenced at 0 by " + site, x.alarm(0, 6), site == -1 || site == 0 ? 1 : 0);
            due("silenced at 9 by " + site, x.alarm(1, 6), site == -1 || site == 9 ? 1 : 0);
        }
    }

    private static void silenceOfAnyRule() {
        Expect.part("5: of its RULE or any");
        for (int rule : new int[] {-1, 0, 1}) {
            AlarmTower x = tower(0);
            plain(x);
            plain(x);
            x.hand();
            due("silence of " + rule, x.silence(0, rule, 1, 1, 0), 0);
            tell(x, 20);
            due("rule 0 is silenced by " + rule, x.alarm(0, 6), rule <= 0 ? 1 : 0);
            due("rule 1 is silenced by " + rule, x.alarm(1, 6), rule == 0 ? 0 : 1);
        }
    }

    private static void silenceByAnyHand() {
        Expect.part("5: by a HAND");
        AlarmTower x = tower(0);
        due("by none", x.silence(-1, -1, 1, 1, 0), -1);
        for (int h = 0; h <= 7; h++) {
            due("by one that didn't come", x.silence(-1, -1, 1, 1, h), -1);
            x.hand();
            due("by the latest one", x.silence(-1, -1, 1, 1, h), h);
        }
        due("by hand 8", x.silence(-1, -1, 1, 1, 8), -1);
        due("by hand -1", x.silence(-1, -1, 1, 1, -1), -1);
    }

    // ------------------------------------------------------------------ 6, 7

    private static void masksFrom0To7() {
        Expect.part("6: the MASK, 0 .. 7");
        // sites 0 0 1, rules of the grades 1 1 2
        int[] groups = {1, 2, 3, 6, 2, 4, 3, 6};
        for (int m = 0; m <= 7; m++) {
            AlarmTower x = tower(0, 0, 1);
            plain(x);
            plain(x);
            x.rule(0, 10, 0, 20101, -1);
            due("mask(" + m + ")", x.mask(m), 0);
            tell(x, 20, 20, 20);
            due("groups by " + m, x.count(8), groups[m]);
        }
        AlarmTower x = new AlarmTower();
        due("mask(-1)", x.mask(-1), -1);
        due("mask(8)", x.mask(8), -1);
    }

    private static void maskWithoutAnAlarm() {
        Expect.part("6: -3: there was an ALARM");
        AlarmTower x = tower(0);
        x.rule(0, 10, 0, 10102, -1);
        due("at first", x.mask(2), 0);
        ticks20(x, 1);
        due("behind a tick, pending", x.mask(3), 0);
        ticks20(x, 1);
        due("while it lasts", x.mask(4), -3);
        due("out of range", x.mask(8), -1);
        tell(x, 5);
        due("when it ended", x.mask(4), -3);
    }

    private static void waitsWithinTheirRanges() {
        Expect.part("7: first 0 .. 50, again 1 .. 50, each 1 .. 100, up 1 .. 50");
        AlarmTower x = tower(0, 0);
        int[][] good = {{0, 1, 1, 1}, {50, 1, 1, 1}, {0, 50, 1, 1}, {0, 1, 100, 1}, {0, 1, 1, 50}, {50, 50, 100, 50}};
        for (int[] w : good) {
            due("waits(" + w[0] + ", " + w[1] + ", " + w[2] + ", " + w[3] + ")", x.waits(w[0], w[1], w[2], w[3]), 0);
        }
        int[][] bad = {{-1, 1, 1, 1}, {51, 1, 1, 1}, {0, 0, 1, 1}, {0, 51, 1, 1}, {0, 1, 0, 1}, {0, 1, 101, 1}, {0, 1, 1, 0},
            {0, 1, 1, 51}};
        for (int[] w : bad) {
            due("waits(" + w[0] + ", " + w[1] + ", " + w[2] + ", " + w[3] + ")", x.waits(w[0], w[1], w[2], w[3]), -1);
        }
        // the longest: first 50, again 50, each 100, up 50
        plain(x);
        x.hand();
        x.shift(0, 0, 48, 0);
        due("before 50 ticks", ticks20(x, 50), 0);
        due("first 50", ticks20(x, 1), 1);
        x.value(1, 20);
        due("before 50 ticks", ticks20(x, 49), 0);
        due("it went to the hand", x.letter(0, 3), 0);
        due("again 50", ticks20(x, 1), 1);
        due("up 50", x.letter(0, 3), -2);
        due("when", x.letter(0, 4), 101);
        due("before 100 ticks", ticks20(x, 99), 0);
        due("each 100", ticks20(x, 1), 1);
        due("when", x.letter(2, 0), 201);
    }

    private static void waitsAtFirst() {
        Expect.part("7: 2, 5, 20 at first, UP 3 at first");
        AlarmTower x = tower(0, 0);
        plain(x);
        x.hand();
        x.shift(0, 0, 48, 0);
        due("first 2: before", ticks20(x, 2), 0);
        due("first 2", ticks20(x, 1), 1);
        x.value(1, 20);
        due("up 3: before", ticks20(x, 2), 0);
        due("up 3: before", x.letter(0, 3), 0);
        due("again 5: before", ticks20(x, 2), 0);
        due("up 3", x.letter(0, 3), -2);
        due("up 3", x.letter(0, 4), 6);
        due("again 5", ticks20(x, 1), 1);
        due("each 20: before", ticks20(x, 19), 0);
        due("each 20", ticks20(x, 1), 1);
        due("why", x.why(2), 3);
    }

    // ------------------------------------------------------------------ 8 to 10

    private static void handsFrom0To7() {
        Expect.part("8: hands 0 .. 7; there are 8");
        AlarmTower x = new AlarmTower();
        for (int h = 0; h <= 7; h++) {
            due("noise of one that didn't come", x.noise(h), -1);
            due("hand " + h, x.hand(), h);
            due("count(2)", x.count(2), h + 1);
            due("shift of the latest one", x.shift(h, 0, 48, 0), h);
        }
        due("hand 8", x.hand(), -2);
        due("count(2)", x.count(2), 8);
        due("shift of hand 8", x.shift(8, 0, 48, 0), -1);
        same("all are awake", awakeAt(x, 1), "01234567");
        due("awake(1, 7)", x.awake(1, 7), 7);
        due("awake(1, 8)", x.awake(1, 8), -2);
    }

    private static void shiftPlacesFrom0To47() {
        Expect.part("9: from place 0 .. 47 on; tick t is at place t modulo 48");
        AlarmTower x = new AlarmTower();
        x.hand();
        x.hand();
        due("place -1", x.shift(0, -1, 1, 0), -1);
        due("place 48", x.shift(0, 48, 1, 0), -1);
        due("place 0", x.shift(0, 0, 1, 0), 0);
        due("place 47", x.shift(1, 47, 1, 0), 1);
        int[] ticks = {1, 46, 47, 48, 49, 94, 95, 96, 97, 959, 960, 961, 1000};
        String[] want = {"", "", "1", "0", "", "", "1", "0", "", "1", "0", "", ""};
        for (int i = 0; i < ticks.length; i++) {
            same("awake at tick " + ticks[i], awakeAt(x, ticks[i]), want[i]);
        }
    }

    private static void shiftOf1To48Places() {
        Expect.part("9: 1 .. 48 places");
        AlarmTower x = new AlarmTower();
        x.hand();
        due("0 places", x.shift(0, 5, 0, 0), -1);
        due("49 places", x.shift(0, 5, 49, 0), -1);
        due("1 place", x.shift(0, 5, 1, 0), 0);
        same("before", awakeAt(x, 4), "");
        same("in it", awakeAt(x, 5), "0");
        same("behind", awakeAt(x, 6), "");
        x = new AlarmTower();
        x.hand();
        due("48 places", x.shift(0, 5, 48, 0), 0);
        for (int t = 1; t <= 100; t++) {
            same("awake at tick " + t, awakeAt(x, t), "0");
        }
        x = new AlarmTower();
        x.hand();
        due("47 places", x.shift(0, 5, 47, 0), 0);
        for (int t = 1; t <= 100; t++) {
            same("awake at tick " + t, awakeAt(x, t), t % 48 == 4 ? "" : "0");
        }
    }

    private static void shiftGoesRound() {
        Expect.part("9: a ROUND of 48 ticks");
        AlarmTower x = new AlarmTower();
        x.hand();
        x.shift(0, 46, 4, 0);
        for (int t = 1; t <= 150; t++) {
            int place = t % 48;
            same("awake at tick " + t, awakeAt(x, t), place >= 46 || place <= 1 ? "0" : "");
        }
    }

    private static void stepsFrom0To9() {
        Expect.part("9: STEP 0 .. 9");
        AlarmTower x = new AlarmTower();
        x.hand();
        x.hand();
        due("step -1", x.shift(0, 0, 48, -1), -1);
        due("step 10", x.shift(0, 0, 48, 10), -1);
        due("step 9", x.shift(0, 0, 48, 9), 0);
        same("the last step is awake", awakeAt(x, 1), "0");
        due("step 0", x.shift(1, 0, 48, 0), 1);
        same("0 goes before 9", awakeAt(x, 1), "10");
    }

    private static void shiftsUpTo40() {
        Expect.part("9: SHIFTS (at most 40)");
        AlarmTower x = new AlarmTower();
        x.hand();
        for (int i = 0; i < 39; i++) {
            due("shift " + i, x.shift(0, 0, 1, 9), i);
        }
        due("shift 39", x.shift(0, 1, 1, 0), 39);
        due("shift 40", x.shift(0, 2, 1, 0), -2);
        same("the 40th", awakeAt(x, 1), "0");
        same("what was refused", awakeAt(x, 2), "");
    }

    private static void swapTicksFrom1To1000() {
        Expect.part("10: from a tick to one that isn't before it (1 .. 1000)");
        AlarmTower x = new AlarmTower();
        x.hand();
        x.hand();
        x.shift(0, 0, 48, 0);
        due("0 to 1", x.swap(0, 1, 0, 1), -1);
        due("1 to 1001", x.swap(0, 1, 1, 1001), -1);
        due("5 to 4", x.swap(0, 1, 5, 4), -1);
        due("one hand", x.swap(1, 1, 4, 5), -1);
        due("1 to 1", x.swap(0, 1, 1, 1), 0);
        due("4 to 5", x.swap(1, 0, 4, 5), 1);
        due("1000 to 1000", x.swap(0, 1, 1000, 1000), 2);
        int[] ticks = {1, 2, 3, 4, 5, 6, 999, 1000};
        String[] want = {"1", "0", "0", "1", "1", "0", "0", "1"};
        for (int i = 0; i < ticks.length; i++) {
            same("awake at tick " + ticks[i], awakeAt(x, ticks[i]), want[i]);
        }
        x = new AlarmTower();
        x.hand();
        x.hand();
        x.shift(0, 0, 48, 0);
        due("1 to 1000", x.swap(0, 1, 1, 1000), 0);
        same("tick 1", awakeAt(x, 1), "1");
        same("tick 1000", awakeAt(x, 1000), "1");
    }

    private static void swapsUpTo20() {
        Expect.part("10: a SWAP (at most 20)");
        AlarmTower x = new AlarmTower();
        x.hand();
        x.hand();
        x.shift(0, 0, 48, 0);
        for (int i = 0; i < 19; i++) {
            due("swap " + i, x.swap(0, 1, 500, 500), i);
        }
        due("swap 19", x.swap(0, 1, 7, 7), 19);
        due("swap 20", x.swap(0, 1, 8, 8), -2);
        same("the 20th", awakeAt(x, 7), "1");
        same("what was refused", awakeAt(x, 8), "0");
        same("19 one after the other", awakeAt(x, 500), "1");
    }

    private static void swapsOneAfterTheOther() {
        Expect.part("10: SWAPS are done one after the other as they came");
        AlarmTower x = new AlarmTower();
        for (int h = 0; h < 4; h++) {
            x.hand();
            x.shift(h, 0, 48, h);
        }
        x.swap(0, 1, 1, 1);
        x.swap(1, 2, 1, 2);
        x.swap(0, 3, 2, 2);
        // 1 stands for 0; then 2 stands for 0, and 1 for 2
        same("two of them", awakeAt(x, 1), "2013");
        same("two that have no hand in common", awakeAt(x, 2), "3210");
        same("none", awakeAt(x, 3), "0123");
        x.swap(1, 0, 1, 1);
        same("three of them", awakeAt(x, 1), "2103");
        AlarmTower y = new AlarmTower();
        y.hand();
        y.hand();
        y.shift(0, 0, 48, 0);
        y.swap(0, 1, 1, 1);
        same("one without a shift stands in the other's", awakeAt(y, 1), "1");
        y.swap(0, 1, 1, 1);
        same("the same again undoes it", awakeAt(y, 1), "0");
    }

    // ------------------------------------------------------------------ 11 to 13

    private static void valueIsCut() {
        Expect.part("11: v, cut towards 0");
        double[] told = {0.9, -0.9, 0.0, -0.0, 1.0, 1.9, -1.0, -1.9, 10.999, -10.999, Double.MIN_VALUE, -Double.MIN_VALUE};
        long[] want = {0, 0, 0, 0, 1, 1, -1, -1, 10, -10, 0, 0};
        AlarmTower x = tower(0);
        x.rule(0, 10, 0, 10101, -1);
        sent(x, told);
        x.keep(0, 3, 0);
        x.keep(1, 4, 0);
        for (int i = 0; i < told.length; i++) {
            due("value(0, " + told[i] + ")", x.element(0, i), want[i]);
            due("it had one", x.element(1, i), 1);
        }
        due("10.999 is not above 10", x.count(4), 0);
    }

    private static void valueWithin() {
        Expect.part("11: within 1000000000000.0 (with a sign or without)");
        double most = 1000000000000.0;
        double beyond = 1000000000000.0001220703125;
        AlarmTower x = tower(0);
        due("the most", x.value(0, most), 1);
        x.tick();
        due("the least", x.value(0, -most), 1);
        x.tick();
        due("less than the most", x.value(0, 999999999999.9999), 1);
        x.tick();
        x.keep(0, 3, 0);
        due("the most", x.element(0, 0), 1000000000000L);
        due("the least", x.element(0, 1), -1000000000000L);
        due("less than the most", x.element(0, 2), 999999999999L);
        due("beyond", x.value(0, beyond), -2);
        due("beyond, with a sign", x.value(0, -beyond), -2);
        due("no number", x.value(0, SILENT), -2);
        due("without an end", x.value(0, 1.0 / 0.0), -2);
        due("without an end, with a sign", x.value(0, -1.0 / 0.0), -2);
        due("it has none by that", x.tear(0), 0);
    }

    private static void valueWhetherItHadNone() {
        Expect.part("11: whether it had none; the latest that was told");
        AlarmTower x = tower(0, 0);
        due("it had none", x.value(0, 5), 1);
        due("it had one", x.value(0, 6), 0);
        due("the same again", x.value(0, 6), 0);
        due("another source had none", x.value(1, 0), 1);
        due("a 0 is one", x.value(1, 7), 0);
        due("a refused one leaves it", x.value(0, SILENT), -2);
        x.tick();
        x.keep(0, 3, 0);
        due("the latest", x.element(0, 0), 6);
        due("in the next tick it had none", x.value(0, 5), 1);
    }

    private static void valueUpTo400() {
        Expect.part("11: 400 ticks are closed");
        AlarmTower x = tower(0);
        ticks(x, 399);
        due("in tick 400", x.value(0, 1), 1);
        due("in tick 400, again", x.value(0, 2), 0);
        x.tick();
        due("in tick 401", x.value(0, 1), -2);
        due("in tick 401, no source", x.value(1, 1), -1);
        due("tear in tick 401", x.tear(0), 0);
        x.keep(0, 3, 0);
        due("that of tick 400", x.element(0, 59), 2);
    }

    private static void tearWhetherItHadOne() {
        Expect.part("12: whether it had one");
        AlarmTower x = tower(0, 0);
        x.rule(104, 0, 0, 10101, -1);
        due("none", x.tear(0), 0);
        x.value(0, 0);
        x.value(1, 5);
        due("one", x.tear(0), 1);
        due("none any more", x.tear(0), 0);
        x.tick();
        due("it was silent", x.truth(0, 0), 1);
        due("the other was not", x.truth(0, 1), 0);
        due("none in a new tick", x.tear(1), 0);
        due("what was closed stays", x.truth(0, 1), 0);
        x.keep(0, 4, 1);
        due("what was closed stays", x.element(0, 0), 1);
        due("value behind tear", x.value(0, 1), 1);
        x.tear(0);
        due("value behind tear", x.value(0, 1), 1);
    }

    private static void ticksUpTo400() {
        Expect.part("13: at most 400 are closed");
        AlarmTower x = tower(0);
        plain(x);
        x.waits(0, 1, 100, 1);
        ticks(x, 399);
        x.value(0, 20);
        due("tick 400", x.tick(), 1);
        due("count(3)", x.count(3), 400);
        due("truth in tick 400", x.truth(0, 0), 1);
        due("tick 401", x.tick(), -2);
        due("count(3)", x.count(3), 400);
        due("truth in tick 400", x.truth(0, 0), 1);
        due("the letter", x.letter(0, 0), 400);
        due("tick 401, again", x.tick(), -2);
    }

    private static void tickCountsLetters() {
        Expect.part("13: how many LETTERS were sent");
        AlarmTower x = tower(0, 1, 2, 3);
        plain(x);
        x.waits(0, 1, 100, 1);
        due("none", tell(x, 5, 5, 5, 5), 0);
        due("one", tell(x, 20), 1);
        due("three", tell(x, 20, 20, 20, 20), 3);
        due("none", tell(x, 20, 20, 20, 20), 0);
        due("four that close", tell(x, 5, 5, 5, 5), 4);
        due("count(6)", x.count(6), 8);
    }
}
