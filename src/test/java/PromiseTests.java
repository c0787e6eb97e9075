/** For each promise of the document: ordinary inputs, the edges that it names, and wrong inputs. */
public final class PromiseTests extends Towers {
    private PromiseTests() {
    }

    public static void main(String[] args) {
        newObject();
        source();
        rule();
        ruleOver();
        ruleBack();
        ruleRate();
        rulePart();
        ruleGone();
        ruleOdd();
        ruleBoth();
        hold();
        silence();
        mask();
        waits();
        hand();
        shift();
        swap();
        value();
        tear();
        tick();
        tickReasons();
        tickLimits();
        truth();
        counts();
        alarm();
        alarmRoom();
        letter();
        letterRow();
        letterEnds();
        holds();
        why();
        whyNot();
        awake();
        answer();
        noise();
        flap();
        least();
        count();
        keep();
        make();
        element();
        copy();
        weight();
        toss();
        Expect.end();
    }

    // ------------------------------------------------------------------ 1 to 12

    private static void newObject() {
        Expect.part("1 new object");
        AlarmTower x = new AlarmTower();
        for (int what = 0; what <= 8; what++) {
            due("count(" + what + ")", x.count(what), 0);
        }
        due("truth(0, 0)", x.truth(0, 0), -2);
        due("alarm(0, 0)", x.alarm(0, 0), -1);
        due("letter(0, 0)", x.letter(0, 0), -1);
        due("awake(1, 0)", x.awake(1, 0), -2);
        for (int d = 0; d < 8; d++) {
            due("weight(" + d + ")", x.weight(d), -11);
        }
        AlarmTower y = tower(0);
        y.rule(0, 10, 0, 10101, -1);
        y.waits(0, 5, 20, 3);
        tickWith(y, 0, 11);
        due("alarm(0, 2): tick 1 is open at first", y.alarm(0, 2), 1);
        due("another object knows nothing of it", x.count(0), 0);
    }

    private static void source() {
        Expect.part("2 source");
        AlarmTower x = new AlarmTower();
        due("source(-1)", x.source(-1), -1);
        due("source(10)", x.source(10), -1);
        due("source(MIN)", x.source(MIN), -1);
        due("source(MAX)", x.source(MAX), -1);
        due("count(0)", x.count(0), 0);
        for (int i = 0; i < 16; i++) {
            due("source " + i, x.source(i % 10), i);
        }
        due("source 16", x.source(0), -2);
        due("source(10) when full", x.source(10), -1);
        due("count(0) when full", x.count(0), 16);
    }

    private static void rule() {
        Expect.part("3 rule");
        AlarmTower x = tower(0, 1);
        int[] badWhats = {-1, -100, -200, 7, 10, 99, 2, 3, 4, 5, 207 + 2000, 2102, 2103, 2104, 2105, MIN, MAX};
        for (int what : badWhats) {
            due("rule(" + what + ")", x.rule(what, 10, 1, 10101, -1), -1);
        }
        int[] badHows = {-1, 0, 101, 10001, 10100, 10111, 11101, 60101, 1, 10000, MIN, MAX, -10101};
        for (int how : badHows) {
            due("rule how " + how, x.rule(0, 10, 0, how, -1), -1);
        }
        due("rule site -2", x.rule(0, 10, 0, 10101, -2), -1);
        due("rule site 10", x.rule(0, 10, 0, 10101, 10), -1);
        due("rule BACK b above a", x.rule(1, 10, 11, 10101, -1), -1);
        due("rule PART b 0", x.rule(103, 10, 0, 10101, -1), -1);
        due("rule PART b 101", x.rule(103, 10, 101, 10101, -1), -1);
        due("rule BOTH of none", x.rule(6, 0, 0, 10101, -1), -1);
        due("count(1)", x.count(1), 0);
        due("rule BACK b is a", x.rule(1, 10, 10, 10101, -1), 0);
        due("rule BOTH of itself", x.rule(6, 1, 0, 10101, -1), -1);
        due("rule BOTH of itself", x.rule(6, 0, 1, 10101, -1), -1);
        due("rule BOTH of -1", x.rule(6, -1, 0, 10101, -1), -1);
        due("rule BOTH of -1", x.rule(6, 0, -1, 10101, -1), -1);
        due("rule BOTH of a long", x.rule(6, 1L << 32, 0, 10101, -1), -1);
        due("rule BOTH of one twice", x.rule(6, 0, 0, 10101, -1), 1);
        due("rule PART b 1, n 1", x.rule(103, 10, 1, 10101, -1), 2);
        due("rule PART b 100, n 20", x.rule(2003, 10, 100, 51010, 9), 3);
        due("rule OVER n 7", x.rule(700, Long.MAX_VALUE, MIN, 10101, 0), 4);
        due("rule ODD a below 0", x.rule(105, Long.MIN_VALUE, MAX, 10101, -1), 5);
        due("rule RATE n 20", x.rule(2002, 0, 0, 10101, -1), 6);
        due("rule GONE n 20", x.rule(2004, 0, 0, 10101, -1), 7);
        due("rule OVER n 25", x.rule(2500, 0, 0, 10101, -1), 8);
        for (int r = 9; r < 16; r++) {
            due("rule " + r, x.rule(0, 10, 0, 10101, -1), r);
        }
        due("rule 16", x.rule(0, 10, 0, 10101, -1), -2);
        due("rule 16, not as told", x.rule(7, 10, 0, 10101, -1), -1);
        due("count(1) when full", x.count(1), 16);
        ruleManner();
    }

    private static void ruleManner() {
        AlarmTower x = tower(4, 5);
        x.waits(0, 1, 100, 1);
        x.rule(0, 10, 0, 30302, 5);
        for (int t = 1; t <= 3; t++) {
            x.value(0, 20);
            tickWith(x, 1, 20);
            due("alarms by the wait, tick " + t, x.count(4), t < 2 ? 0 : 1);
        }
        due("it looks at one site", x.alarm(0, 1), 1);
        due("truth at another site", x.truth(0, 0), -1);
        due("counts at another site", x.counts(0, 0, 0), 0);
        due("grade", x.alarm(0, 4), 3);
        for (int t = 4; t <= 6; t++) {
            tickWith(x, 1, 5);
            due("it lasts till the end, tick " + t, x.count(5), t < 6 ? 1 : 0);
        }
        due("ended", x.alarm(0, 3), 6);
    }

    private static void ruleOver() {
        Expect.part("3 rule OVER");
        AlarmTower x = tower(0);
        x.rule(0, 10, 99, 10101, -1);
        same("truths", truths(x, 11, 10, 10.9, -11, SILENT, 11), "1000-1");
        x = tower(0);
        x.rule(0, -5, 0, 10101, -1);
        same("truths", truths(x, -5, -4, -4.9, -5.9, 0), "01101");
    }

    private static void ruleBack() {
        Expect.part("3 rule BACK");
        AlarmTower x = tower(0);
        x.rule(1, 30, 10, 10101, -1);
        same("truths", truths(x, 20, 30, 31, 30, 10, 9, 10, 31, SILENT, SILENT, 10, 9, SILENT, 10),
            "001110" + "01--10-0");
        x = tower(0);
        x.rule(1, 10, 10, 10101, -1);
        same("truths", truths(x, 10, 11, 10, 9, 10), "01100");
    }

    private static void ruleRate() {
        Expect.part("3 rule RATE");
        AlarmTower x = tower(0);
        x.rule(202, 5, 0, 10101, -1);
        same("truths", truths(x, 0, 10, 5, 16, 10, SILENT, 16, 30, 22, 36), "--010-1-11");
        x = tower(0);
        x.rule(102, -3, 0, 10101, -1);
        same("truths", truths(x, 10, 8, 5, 1, 1), "-1001");
        x = tower(0);
        x.rule(2002, 0, 0, 10101, -1);
        x.value(0, 5);
        ticks(x, 20);
        x.value(0, 6);
        x.tick();
        due("the value 20 ticks before", x.truth(0, 0), 1);
    }

    private static void rulePart() {
        Expect.part("3 rule PART");
        AlarmTower x = tower(0);
        x.rule(203, 10, 50, 10101, -1);
        same("truths", truths(x, 11, 10, 9, 11, 11, SILENT, 11, 5, 5, 20), "110" + "11-1101");
        x = tower(0);
        x.rule(103, 10, 100, 10101, -1);
        same("truths", truths(x, 11, 11, 10, 11, 11, SILENT, 11), "11001-1");
        x = tower(0);
        x.rule(303, 10, 34, 10101, -1);
        same("one of three is less than 34 of 100", truths(x, 10, 10, 11, 11), "0001");
        x = tower(0);
        x.rule(303, 10, 33, 10101, -1);
        same("one of three is 33 of 100", truths(x, 10, 10, 11, 11), "0011");
        x = tower(0);
        x.rule(303, 10, 67, 10101, -1);
        same("two of three is less than 67 of 100", truths(x, 11, 11, 10), "110");
        x = tower(0);
        x.rule(303, 10, 66, 10101, -1);
        same("two of three is 66 of 100", truths(x, 11, 11, 10), "111");
        x = tower(0);
        x.rule(203, 10, 50, 10101, -1);
        same("the longer window", truths(x, 5, 5, 5, 11, 11), "00001");
    }

    private static void ruleGone() {
        Expect.part("3 rule GONE");
        AlarmTower x = tower(0);
        x.rule(304, 0, 0, 10101, -1);
        same("truths", truths(x, SILENT, SILENT, 1, SILENT, SILENT, SILENT, SILENT, 2), "11000110");
        x = tower(0);
        x.rule(104, 0, 0, 10101, -1);
        same("truths", truths(x, SILENT, 0, SILENT), "101");
        x = new AlarmTower();
        x.rule(404, 0, 0, 10101, -1);
        ticks(x, 5);
        x.source(0);
        x.tick();
        due("ticks before it came", x.truth(0, 0), 1);
        due("counts since it came", x.counts(0, 0, 0), 1);
    }

    private static void ruleOdd() {
        Expect.part("3 rule ODD");
        AlarmTower x = tower(0);
        x.rule(505, 3, 0, 10101, -1);
        same("truths", truths(x, 5, 100, 7, 8, 11, 3, SILENT, 4, 12), "000011-01");
        // before 8: 5 7 100, middle 7; 11: 5 7 8 100, 7; 3: 5 7 8 11 100, 8; 4: 3 7 8 11, 7; 12: 3 4 8 11, 4
        x = tower(0);
        x.rule(305, 3, 0, 10101, -1);
        same("truths", truths(x, 5, 6, 7, 9, 3, 30), "000011");
        x = tower(0);
        x.rule(405, 3, 0, 10101, -1);
        same("the middle of four is the lower one", truths(x, 40, 10, 30, 20, 17, 13), "000101");
        x = tower(0);
        x.rule(405, 3, 0, 10101, -1);
        same("the middle of four is the lower one", truths(x, 40, 10, 30, 20, 24), "00011");
        x = tower(0);
        x.rule(305, -7, 0, 10101, -1);
        same("a below 0 counts as 0", truths(x, 5, 5, 5, 5, 6), "00001");
        x = tower(0);
        x.rule(305, 0, 0, 10101, -1);
        same("silence makes them fewer", truths(x, 5, SILENT, 5, 50, 5, 5, 50), "0-00001");
        x = tower(0);
        x.rule(205, 0, 0, 10101, -1);
        same("two are always fewer", truths(x, 5, 5, 50, 7), "0000");
    }

    private static void ruleBoth() {
        Expect.part("3 rule BOTH");
        // of rule 0 (above 10) and rule 1 (a rate): every pair of truths
        AlarmTower x = tower(0, 1);
        x.rule(0, 10, 0, 10101, -1);
        x.rule(102, 5, 0, 10101, -1);
        x.rule(6, 0, 1, 10101, -1);
        x.rule(6, 1, 0, 10101, -1);
        x.rule(0, 10, 0, 10101, 1);
        x.rule(6, 0, 4, 10101, -1);
        x.rule(106, 0, 0, 10101, 1);
        due("tick", tickWith(x, 0, 20), 0);
        due("1 and -1", x.truth(2, 0), -1);
        due("-1 and 1", x.truth(3, 0), -1);
        due("-1 and -1", x.truth(2, 1), -1);
        tickWith(x, 0, 30);
        due("1 and 1", x.truth(2, 0), 1);
        due("1 and 1", x.truth(3, 0), 1);
        tickWith(x, 0, 31);
        due("1 and 0", x.truth(2, 0), 0);
        due("0 and 1", x.truth(3, 0), 0);
        x.tick();
        tickWith(x, 0, 5);
        due("0 and -1", x.truth(2, 0), 0);
        due("-1 and 0", x.truth(3, 0), 0);
        x.value(1, 20);
        tickWith(x, 0, 20);
        due("of a rule that doesn't look at the source", x.truth(5, 0), -1);
        due("of two that do", x.truth(5, 1), 1);
        due("at one site alone", x.truth(6, 1), 1);
        due("at another site", x.truth(6, 0), -1);
        tickWith(x, 0, 5);
        due("0 with a rule that doesn't look at the source", x.truth(5, 0), 0);
    }

    private static void hold() {
        Expect.part("4 hold");
        AlarmTower x = tower(0, 0, 1);
        for (int i = 0; i < 4; i++) {
            plain(x);
        }
        int[][] bad = {{-1, 0, 0}, {0, -1, 0}, {4, 0, 0}, {0, 4, 0}, {1, 1, 0}, {0, 1, -1}, {0, 1, 3}, {MIN, MAX, 0}};
        for (int[] b : bad) {
            due("hold(" + b[0] + ", " + b[1] + ", " + b[2] + ")", x.hold(b[0], b[1], b[2]), -1);
        }
        due("hold(0, 1, 0)", x.hold(0, 1, 0), 0);
        due("hold(1, 2, 1)", x.hold(1, 2, 1), 0);
        due("hold(2, 3, 2)", x.hold(2, 3, 2), 0);
        due("hold(1, 0, 0)", x.hold(1, 0, 0), -3);
        due("hold(2, 0, 0)", x.hold(2, 0, 0), -3);
        due("hold(3, 0, 2)", x.hold(3, 0, 2), -3);
        due("hold(0, 3, 1)", x.hold(0, 3, 1), 0);
        due("hold(0, 2, 1)", x.hold(0, 2, 1), 0);
        for (int i = 5; i < 40; i++) {
            due("hold " + i, x.hold(0, 1, i % 3), 0);
        }
        due("hold 40", x.hold(0, 1, 0), -2);
        due("hold 40, over others too", x.hold(3, 0, 2), -2);
        due("hold 40, not as told", x.hold(3, 3, 2), -1);
        holdOver();
        heldWhile(0, 1, 1, 1);
        heldWhile(1, 1, 1, 0);
        heldWhile(2, 1, 0, 0);
    }

    private static void holdOver() {
        AlarmTower x = tower(0);
        for (int i = 0; i < 5; i++) {
            plain(x);
        }
        due("hold(4, 2, 0)", x.hold(4, 2, 0), 0);
        due("hold(2, 1, 1)", x.hold(2, 1, 1), 0);
        due("hold(1, 0, 2)", x.hold(1, 0, 2), 0);
        due("hold(0, 4, 0)", x.hold(0, 4, 0), -3);
        due("hold(0, 2, 0)", x.hold(0, 2, 0), -3);
        due("hold(2, 4, 0)", x.hold(2, 4, 0), -3);
        due("hold(1, 4, 2)", x.hold(1, 4, 2), -3);
        due("hold(0, 3, 0)", x.hold(0, 3, 0), 0);
        due("hold(3, 4, 0)", x.hold(3, 4, 0), -3);
        due("hold(4, 3, 0)", x.hold(4, 3, 0), 0);
        // rule 0 holds rule 1; what is held ends held, and is held no more
        x = tower(0);
        x.rule(0, 10, 0, 10101, -1);
        x.rule(1, 5, 5, 10101, -1);
        due("hold(1, 0, 0)", x.hold(1, 0, 0), 0);
        tickWith(x, 0, 20);
        due("held by rule 0", x.alarm(1, 5), 1);
        due("rule 0 is not held", x.alarm(0, 5), 0);
        tickWith(x, 0, 3);
        due("it ended", x.alarm(1, 3), 2);
        due("held no more", x.alarm(1, 5), 0);
        due("not clear", x.alarm(1, 7), 0);
        // a held one holds others as well
        x = tower(0);
        plain(x);
        plain(x);
        plain(x);
        x.hold(1, 0, 0);
        x.hold(2, 1, 0);
        tickWith(x, 0, 20);
        due("held", x.alarm(1, 5), 1);
        due("held by a held one", x.alarm(2, 5), 1);
        // told behind a tick, it counts in the next
        x = tower(0);
        plain(x);
        plain(x);
        tickWith(x, 0, 20);
        x.hold(0, 1, 2);
        due("as behind the latest tick", x.alarm(0, 5), 0);
        due("as behind the latest tick", x.whyNot(0, 0), 5);
        x.tick();
        due("held in the next", x.alarm(0, 5), 1);
    }

    /** The alarm of rule 1 for source 1 holds those of rule 0 for sources 1, 0, 2, as they are alike. */
    private static void heldWhile(int like, int own, int sameSite, int other) {
        AlarmTower x = tower(0, 0, 1);
        x.rule(0, 10, 0, 10101, -1);
        x.rule(0, 50, 0, 10101, -1);
        x.waits(0, 1, 100, 1);
        due("hold like " + like, x.hold(0, 1, like), 0);
        x.value(0, 20);
        x.value(1, 60);
        x.value(2, 20);
        x.tick();
        due("held, the same source, like " + like, x.alarm(1, 5), own);
        due("held, the same site, like " + like, x.alarm(0, 5), sameSite);
        due("held, another site, like " + like, x.alarm(2, 5), other);
        due("the one that holds", x.alarm(3, 5), 0);
        due("clear since, like " + like, x.alarm(0, 7), 1 - sameSite);
        tickWith(x, 1, 20);
        due("the one that held ended", x.alarm(3, 3), 2);
        due("held no more", x.alarm(1, 5), 0);
        due("clear since it is not held", x.alarm(1, 7), 2);
        due("clear since, like " + like, x.alarm(0, 7), 1 + sameSite);
    }

    private static void silence() {
        Expect.part("5 silence");
        AlarmTower x = tower(2, 3);
        plain(x);
        due("without a hand", x.silence(-1, -1, 1, 1, 0), -1);
        x.hand();
        int[][] bad = {{-2, -1, 1, 1, 0}, {10, -1, 1, 1, 0}, {-1, -2, 1, 1, 0}, {-1, 1, 1, 1, 0}, {-1, -1, 0, 1, 0},
            {-1, -1, 2, 1, 0}, {-1, -1, 1, 1001, 0}, {-1, -1, 1001, 1001, 0}, {-1, -1, 1, 1, 1}, {-1, -1, 1, 1, -1},
            {MIN, MIN, MIN, MIN, MIN}, {MAX, MAX, MAX, MAX, MAX}};
        for (int[] b : bad) {
            due("silence(" + b[0] + ", " + b[1] + ", " + b[2] + ", " + b[3] + ", " + b[4] + ")",
                x.silence(b[0], b[1], b[2], b[3], b[4]), -1);
        }
        due("silence at the edges", x.silence(9, 0, 1000, 1000, 0), 0);
        for (int i = 1; i < 20; i++) {
            due("silence " + i, x.silence(0, -1, 1, 1000, 0), i);
        }
        due("silence 20", x.silence(0, -1, 1, 1000, 0), -2);
        due("silence 20, not as told", x.silence(0, -1, 0, 1000, 0), -1);
        silenced(2, -1, 1, 0);
        silenced(-1, -1, 1, 1);
        silenced(-1, 0, 1, 1);
        silenced(3, 0, 0, 1);
        silenced(2, 1, 0, 0);
        silencedTicks();
    }

    /** A silence, and whether the alarms of rule 0 at the sites 2 and 3 are silenced. */
    private static void silenced(int site, int rule, int one, int other) {
        AlarmTower x = tower(2, 3);
        x.hand();
        plain(x);
        x.rule(0, 1000, 0, 10101, -1);
        due("silence", x.silence(site, rule, 1, 1, 0), 0);
        x.value(0, 20);
        x.value(1, 20);
        x.tick();
        due("silenced at site 2 by " + site + ", " + rule, x.alarm(0, 6), one);
        due("silenced at site 3 by " + site + ", " + rule, x.alarm(1, 6), other);
        due("clear since at site 2", x.alarm(0, 7), 1 - one);
    }

    private static void silencedTicks() {
        AlarmTower x = tower(2);
        x.hand();
        plain(x);
        x.waits(0, 1, 100, 1);
        x.silence(-1, -1, 3, 4, 0);
        int[] want = {0, 0, 1, 1, 0};
        int[] since = {1, 1, 0, 0, 5};
        int[] sent = {1, 0, 0, 0, 1};
        for (int t = 1; t <= 5; t++) {
            due("letters in tick " + t, tickWith(x, 0, 20), sent[t - 1]);
            due("silenced in tick " + t, x.alarm(0, 6), want[t - 1]);
            due("clear since in tick " + t, x.alarm(0, 7), since[t - 1]);
        }
        x.silence(-1, -1, 1, 1000, 0);
        due("as behind the latest tick", x.alarm(0, 6), 0);
        due("as behind the latest tick", x.whyNot(0, 0), 4);
        tickWith(x, 0, 20);
        due("silenced in the next", x.alarm(0, 6), 1);
        tickWith(x, 0, 5);
        due("silenced no more as it ended", x.alarm(0, 6), 0);
    }

    private static void mask() {
        Expect.part("6 mask");
        AlarmTower x = tower(0);
        due("mask(-1)", x.mask(-1), -1);
        due("mask(8)", x.mask(8), -1);
        for (int m = 0; m <= 7; m++) {
            due("mask(" + m + ")", x.mask(m), 0);
        }
        plain(x);
        due("mask with a rule", x.mask(1), 0);
        tickWith(x, 0, 11);
        due("mask after an alarm", x.mask(1), -3);
        due("mask after an alarm, out of range", x.mask(8), -1);
        tickWith(x, 0, 9);
        due("mask after an alarm that ended", x.mask(0), -3);
        // sites 0 0 1, rules of the grades 1 1 2: all of the nine alarms begin
        int[] groups = {1, 2, 3, 6, 2, 4, 3, 6};
        for (int m = 0; m <= 7; m++) {
            due("groups by the mask " + m, nine(m).count(8), groups[m]);
        }
        AlarmTower y = tower(0, 0, 1);
        y.rule(0, 10, 0, 10101, -1);
        for (int s = 0; s < 3; s++) {
            y.value(s, 20);
        }
        y.tick();
        due("groups by the mask at first", y.count(8), 2);
    }

    private static AlarmTower nine(int mask) {
        AlarmTower x = tower(0, 0, 1);
        x.rule(0, 10, 0, 10101, -1);
        x.rule(0, 10, 0, 10101, -1);
        x.rule(0, 10, 0, 20101, -1);
        x.mask(mask);
        for (int s = 0; s < 3; s++) {
            x.value(s, 20);
        }
        x.tick();
        due("alarms", x.count(4), 9);
        return x;
    }

    private static void waits() {
        Expect.part("7 waits");
        AlarmTower x = tower(0);
        int[][] bad = {{-1, 5, 20, 3}, {51, 5, 20, 3}, {2, 0, 20, 3}, {2, 51, 20, 3}, {2, 5, 0, 3}, {2, 5, 101, 3},
            {2, 5, 20, 0}, {2, 5, 20, 51}, {MIN, MIN, MIN, MIN}, {MAX, MAX, MAX, MAX}};
        for (int[] b : bad) {
            due("waits(" + b[0] + ", " + b[1] + ", " + b[2] + ", " + b[3] + ")", x.waits(b[0], b[1], b[2], b[3]), -1);
        }
        plain(x);
        due("a refused one changes nothing", sentAt(x, 25), 30023);
        x = tower(0);
        plain(x);
        due("waits at the least", x.waits(0, 1, 1, 1), 0);
        due("first 0", sentAt(x, 1), 10000);
        due("each 1", tickWith(x, 0, 20), 1);
        x = tower(0);
        plain(x);
        due("waits at the most", x.waits(50, 50, 100, 50), 0);
        due("first 50 and each 100", sentAt(x, 160), 510151);
    }

    /** Ticks with an alarm: 10000 times the tick of the first letter, and the tick of the second. */
    private static int sentAt(AlarmTower x, int n) {
        int[] sent = new int[2];
        int count = 0;
        for (int t = 1; t <= n; t++) {
            if (tickWith(x, 0, 20) == 1 && count < 2) {
                sent[count] = t;
                count++;
            }
        }
        return sent[0] * 10000 + sent[1];
    }

    private static void hand() {
        Expect.part("8 hand");
        AlarmTower x = new AlarmTower();
        for (int i = 0; i < 8; i++) {
            due("hand", x.hand(), i);
        }
        due("hand 8", x.hand(), -2);
        due("count(2)", x.count(2), 8);
    }

    private static void shift() {
        Expect.part("9 shift");
        AlarmTower x = new AlarmTower();
        due("shift without a hand", x.shift(0, 0, 1, 0), -1);
        x.hand();
        x.hand();
        int[][] bad = {{-1, 0, 1, 0}, {2, 0, 1, 0}, {0, -1, 1, 0}, {0, 48, 1, 0}, {0, 0, 0, 0}, {0, 0, 49, 0},
            {0, 0, 1, -1}, {0, 0, 1, 10}, {MIN, MIN, MIN, MIN}, {MAX, MAX, MAX, MAX}};
        for (int[] b : bad) {
            due("shift(" + b[0] + ", " + b[1] + ", " + b[2] + ", " + b[3] + ")", x.shift(b[0], b[1], b[2], b[3]), -1);
        }
        due("shift(0, 47, 3, 9)", x.shift(0, 47, 3, 9), 0);
        int[] ticks = {46, 47, 48, 49, 50, 94, 95, 96, 97, 98, 1, 2};
        int[] awake = {-2, 0, 0, 0, -2, -2, 0, 0, 0, -2, 0, -2};
        for (int i = 0; i < ticks.length; i++) {
            due("awake(" + ticks[i] + ", 0)", x.awake(ticks[i], 0), awake[i]);
        }
        due("shift(1, 5, 1, 0)", x.shift(1, 5, 1, 0), 1);
        due("awake(4, 0)", x.awake(4, 0), -2);
        due("awake(5, 0)", x.awake(5, 0), 1);
        due("awake(6, 0)", x.awake(6, 0), -2);
        due("shift(1, 13, 48, 0)", x.shift(1, 13, 48, 0), 2);
        for (int t = 1; t <= 96; t++) {
            due("awake(" + t + ", 0)", x.awake(t, 0), 1);
        }
        for (int i = 3; i < 40; i++) {
            due("shift " + i, x.shift(0, 0, 1, 0), i);
        }
        due("shift 40", x.shift(0, 0, 1, 0), -2);
        due("shift 40, not as told", x.shift(0, 0, 1, 10), -1);
    }

    private static void swap() {
        Expect.part("10 swap");
        AlarmTower x = new AlarmTower();
        x.hand();
        x.hand();
        x.hand();
        int[][] bad = {{-1, 0, 1, 1}, {0, -1, 1, 1}, {3, 0, 1, 1}, {0, 3, 1, 1}, {1, 1, 1, 1}, {0, 1, 0, 1},
            {0, 1, 2, 1}, {0, 1, 1, 1001}, {0, 1, 1001, 1001}, {MIN, MAX, MIN, MAX}};
        for (int[] b : bad) {
            due("swap(" + b[0] + ", " + b[1] + ", " + b[2] + ", " + b[3] + ")", x.swap(b[0], b[1], b[2], b[3]), -1);
        }
        x.shift(0, 0, 48, 0);
        x.shift(1, 0, 48, 1);
        x.shift(2, 0, 48, 2);
        due("swap 0", x.swap(0, 1, 10, 20), 0);
        due("swap 1", x.swap(1, 2, 15, 25), 1);
        due("swap 2", x.swap(0, 2, 1000, 1000), 2);
        order(x, 9, 0, 1, 2);
        order(x, 10, 1, 0, 2);
        order(x, 14, 1, 0, 2);
        // 1 stands for 0, 0 for 1; then 1 and 2 change: 2 stands for 0, 1 for 2
        order(x, 15, 2, 0, 1);
        order(x, 20, 2, 0, 1);
        order(x, 21, 0, 2, 1);
        order(x, 25, 0, 2, 1);
        order(x, 26, 0, 1, 2);
        order(x, 1000, 2, 1, 0);
        due("swap 3", x.swap(0, 1, 30, 31), 3);
        due("swap 4", x.swap(1, 0, 31, 31), 4);
        order(x, 30, 1, 0, 2);
        order(x, 31, 0, 1, 2);
        for (int i = 5; i < 20; i++) {
            due("swap " + i, x.swap(0, 1, 500, 500), i);
        }
        due("swap 20", x.swap(0, 1, 500, 500), -2);
        due("swap 20, not as told", x.swap(0, 0, 500, 500), -1);
    }

    private static void order(AlarmTower x, int tick, int a, int b, int c) {
        due("awake(" + tick + ", 0)", x.awake(tick, 0), a);
        due("awake(" + tick + ", 1)", x.awake(tick, 1), b);
        due("awake(" + tick + ", 2)", x.awake(tick, 2), c);
    }

    private static void value() {
        Expect.part("11 value");
        AlarmTower x = tower(0);
        due("value(-1)", x.value(-1, 1), -1);
        due("value(1)", x.value(1, 1), -1);
        due("value(1), no number", x.value(1, SILENT), -1);
        double[] bad = {SILENT, 1.0 / 0.0, -1.0 / 0.0, 1000000000000.5, -1000000000000.5, 1e300};
        for (double v : bad) {
            due("value(0, " + v + ")", x.value(0, v), -2);
        }
        due("a refused one tells nothing", x.tear(0), 0);
        double[] told = {1000000000000.0, -1000000000000.0, 0.9, -0.9, 1.9, -1.9, 999999999999.9, 5};
        long[] cut = {1000000000000L, -1000000000000L, 0, 0, 1, -1, 999999999999L, 5};
        for (int i = 0; i < told.length; i++) {
            due("value " + told[i], x.value(0, told[i]), 1);
            x.tick();
        }
        due("value 1", x.value(0, 1), 1);
        due("value 2, the latest", x.value(0, 2), 0);
        x.tick();
        x.keep(0, 3, 0);
        for (int i = 0; i < cut.length; i++) {
            due("element " + i, x.element(0, i), cut[i]);
        }
        due("the latest that was told", x.element(0, 8), 2);
        ticks(x, 391);
        due("count(3)", x.count(3), 400);
        due("value when 400 are closed", x.value(0, 1), -2);
        due("value(1) when 400 are closed", x.value(1, 1), -1);
        due("tear when 400 are closed", x.tear(0), 0);
    }

    private static void tear() {
        Expect.part("12 tear");
        AlarmTower x = tower(0, 0);
        plain(x);
        due("tear(-1)", x.tear(-1), -1);
        due("tear(2)", x.tear(2), -1);
        due("tear of a silent one", x.tear(0), 0);
        x.value(0, 20);
        x.value(1, 20);
        due("tear", x.tear(0), 1);
        due("tear again", x.tear(0), 0);
        x.tick();
        due("it had none", x.truth(0, 0), -1);
        due("the other had one", x.truth(0, 1), 1);
        due("a new tick has none", x.tear(1), 0);
        x.value(0, 1);
        x.tear(0);
        due("value after tear", x.value(0, 20), 1);
        x.tick();
        due("the value counts", x.truth(0, 0), 1);
    }

    // ------------------------------------------------------------------ 13 to 20

    private static void tick() {
        Expect.part("13 tick");
        AlarmTower x = tower(0, 1, 2);
        plain(x);
        x.waits(0, 1, 100, 1);
        for (int s = 0; s < 3; s++) {
            x.value(s, 20);
        }
        due("letters of three groups", x.tick(), 3);
        due("none again", x.tick(), 0);
        x.value(0, 5);
        x.value(2, 5);
        due("two are closed", x.tick(), 2);
        ticks(x, 396);
        due("count(3)", x.count(3), 399);
        x.value(1, 5);
        due("the tick 400", x.tick(), 1);
        due("letter(5, 0), each 100", x.letter(5, 0), 101);
        due("letter(8, 0)", x.letter(8, 0), 400);
        due("tick when 400 are closed", x.tick(), -2);
        due("count(3)", x.count(3), 400);
        // alarms: rules by number, of each the sources by number; groups by their first alarms
        x = tower(0, 1);
        x.mask(2);
        plain(x);
        plain(x);
        x.rule(0, 100, 0, 10101, -1);
        x.waits(0, 50, 100, 1);
        x.value(0, 20);
        x.value(1, 200);
        due("tick", x.tick(), 3);
        int[] rules = {0, 0, 1, 1, 2};
        int[] sources = {0, 1, 0, 1, 1};
        for (int a = 0; a < 5; a++) {
            due("rule of alarm " + a, x.alarm(a, 0), rules[a]);
            due("source of alarm " + a, x.alarm(a, 1), sources[a]);
        }
        due("first of letter 0", x.letter(0, 1), 0);
        due("first of letter 1", x.letter(1, 1), 2);
        due("first of letter 2", x.letter(2, 1), 4);
    }

    private static void tickReasons() {
        // first 2, again 5, each 20: a group that isn't open, then one that is
        AlarmTower x = tower(0, 0);
        plain(x);
        due("fresh since 0 ticks", tickWith(x, 0, 20), 0);
        due("fresh since 1 tick", tickWith(x, 0, 20), 0);
        due("fresh since 2 ticks", tickWith(x, 0, 20), 1);
        due("none fresh", tickWith(x, 1, 20), 0);
        for (int t = 5; t <= 7; t++) {
            due("fresh before again, tick " + t, x.tick(), 0);
        }
        due("fresh, and again", x.tick(), 1);
        for (int t = 9; t <= 27; t++) {
            due("clear before each, tick " + t, x.tick(), 0);
        }
        due("clear, and each", x.tick(), 1);
        due("one ends", tickWith(x, 0, 5), 0);
        due("none lasts", tickWith(x, 1, 5), 1);
        due("closed: it tells nothing", ticks(x, 60), 0);
        // an alarm that ends before first is never told
        due("begins", tickWith(x, 0, 20), 0);
        due("ends", tickWith(x, 0, 5), 0);
        due("not told", ticks(x, 30), 0);
        // a group that closed waits by first, not by again
        tickWith(x, 0, 20);
        x.tick();
        due("opens again", x.tick(), 1);
        due("why", x.why(x.count(6) - 1), 1);
        // an answer moves LAST
        x = tower(0);
        plain(x);
        x.hand();
        x.waits(0, 3, 6, 50);
        due("sent", tickWith(x, 0, 20), 1);
        ticks(x, 2);
        due("answer in tick 4", x.answer(0, 0), 0);
        due("each counts from the answer", ticks(x, 6), 0);
        due("each since the answer", x.tick(), 1);
        due("letter(1, 0)", x.letter(1, 0), 10);
        // an open group where all that last are held or silenced
        x.silence(-1, -1, 11, 100, 0);
        due("silenced, it stays open", ticks(x, 30), 0);
        due("ends while silenced", tickWith(x, 0, 5), 1);
        due("why", x.why(2), 4);
        due("how many", x.letter(2, 2), 1);
        // clear again: fresh again
        x = tower(0);
        plain(x);
        x.hand();
        x.waits(3, 7, 100, 50);
        x.silence(-1, -1, 3, 4, 0);
        due("not yet", ticks20(x, 7), 0);
        due("fresh since it became clear the last time", tickWith(x, 0, 20), 1);
        x.silence(-1, -1, 9, 9, 0);
        due("fresh again waits for again", ticks20(x, 6), 0);
        due("fresh again", x.tick(), 1);
        due("why", x.why(1), 2);
    }

    private static void tickLimits() {
        // 16 groups (one a site and rule) of which each sends in each tick: 200 letters in all
        AlarmTower x = new AlarmTower();
        for (int s = 0; s < 10; s++) {
            x.source(s);
        }
        for (int r = 0; r < 6; r++) {
            x.rule(104, 0, 0, 10101, -1);
        }
        x.mask(3);
        x.waits(0, 1, 1, 1);
        due("60 letters", x.tick(), 60);
        due("60 letters", x.tick(), 60);
        due("60 letters", x.tick(), 60);
        due("20 letters", x.tick(), 20);
        due("none any more", x.tick(), 0);
        due("count(6)", x.count(6), 200);
        due("count(4)", x.count(4), 60);
        for (int i = 0; i < 20; i++) {
            due("letter " + (180 + i), x.letter(180 + i, 1), i);
        }
        due("letter(199, 0)", x.letter(199, 0), 4);
        due("letter(200, 0)", x.letter(200, 0), -1);
    }

    private static void truth() {
        Expect.part("14 truth");
        AlarmTower x = tower(0);
        due("truth of no rule, none closed", x.truth(0, 0), -2);
        plain(x);
        due("none closed", x.truth(0, 0), -3);
        due("truth(-1, 0)", x.truth(-1, 0), -2);
        due("truth(1, 0)", x.truth(1, 0), -2);
        due("truth(0, -1)", x.truth(0, -1), -2);
        due("truth(0, 1)", x.truth(0, 1), -2);
        x.value(0, 20);
        x.tick();
        due("true", x.truth(0, 0), 1);
        x.value(0, 5);
        due("of the latest that was closed", x.truth(0, 0), 1);
        x.tick();
        due("false", x.truth(0, 0), 0);
        x.tick();
        due("neither", x.truth(0, 0), -1);
        due("truth(1, 0)", x.truth(1, 0), -2);
        plain(x);
        due("of a rule that came behind it", x.truth(1, 0), -1);
    }

    private static void counts() {
        Expect.part("15 counts");
        AlarmTower x = tower(0);
        due("no rule", x.counts(0, 0, 0), -1);
        x.rule(0, 10, 0, 10202, -1);
        int[][] bad = {{-1, 0, 0}, {1, 0, 0}, {0, -1, 0}, {0, 1, 0}, {0, 0, -1}, {0, 0, 3}, {MIN, MAX, 0}};
        for (int[] b : bad) {
            due("counts(" + b[0] + ", " + b[1] + ", " + b[2] + ")", x.counts(b[0], b[1], b[2]), -1);
        }
        countsAre(x, 0, 0, -2);
        tickWith(x, 0, 20);
        countsAre(x, 1, 0, -2);
        x.tick();
        countsAre(x, 1, 0, -2);
        tickWith(x, 0, 20);
        countsAre(x, 2, 0, 0);
        tickWith(x, 0, 20);
        countsAre(x, 3, 0, 0);
        tickWith(x, 0, 5);
        countsAre(x, 0, 1, 0);
        x.tick();
        countsAre(x, 0, 1, 0);
        tickWith(x, 0, 20);
        countsAre(x, 1, 0, 0);
        tickWith(x, 0, 5);
        tickWith(x, 0, 5);
        countsAre(x, 0, 2, -2);
        tickWith(x, 0, 5);
        countsAre(x, 0, 3, -2);
    }

    private static void countsAre(AlarmTower x, int trues, int falses, int alarm) {
        due("TRUES after tick " + x.count(3), x.counts(0, 0, 0), trues);
        due("FALSES after tick " + x.count(3), x.counts(0, 0, 1), falses);
        due("the ALARM after tick " + x.count(3), x.counts(0, 0, 2), alarm);
    }

    private static void alarm() {
        Expect.part("16 alarm");
        AlarmTower x = tower(0, 3);
        x.rule(0, 1000, 0, 10101, -1);
        x.rule(0, 10, 0, 40101, -1);
        x.hand();
        x.waits(1, 1, 1, 1);
        x.tick();
        tickWith(x, 1, 20);
        int[] want = {1, 1, 2, 0, 4, 0, 0, 2, 0};
        for (int what = 0; what < want.length; what++) {
            due("alarm(0, " + what + ")", x.alarm(0, what), want[what]);
        }
        due("alarm(0, -1)", x.alarm(0, -1), -1);
        due("alarm(0, 9)", x.alarm(0, 9), -1);
        due("alarm(-1, 0)", x.alarm(-1, 0), -1);
        due("alarm(1, 0)", x.alarm(1, 0), -1);
        due("alarm(MIN, MAX)", x.alarm(MIN, MAX), -1);
        tickWith(x, 1, 20);
        due("in a letter", x.alarm(0, 8), 1);
        tickWith(x, 1, 20);
        due("in two letters", x.alarm(0, 8), 2);
        tickWith(x, 1, 5);
        due("ended", x.alarm(0, 3), 5);
        due("not clear", x.alarm(0, 7), 0);
        due("in the letter that tells its end", x.alarm(0, 8), 3);
        due("count(5)", x.count(5), 0);
        tickWith(x, 1, 20);
        due("a second one", x.alarm(1, 2), 6);
        due("the first stays", x.alarm(0, 3), 5);
    }

    private static void alarmRoom() {
        // 16 rules of 16 sources: 256 alarms begin and end at once; then 44 more, and none any more
        AlarmTower x = new AlarmTower();
        for (int i = 0; i < 16; i++) {
            x.source(0);
            x.rule(104, 0, 0, 10101, -1);
        }
        x.mask(0);
        x.tick();
        due("count(4)", x.count(4), 256);
        for (int s = 0; s < 16; s++) {
            x.value(s, 1);
        }
        x.tick();
        due("count(5)", x.count(5), 0);
        x.tick();
        due("count(4)", x.count(4), 300);
        due("count(5)", x.count(5), 44);
        due("rule of the last one", x.alarm(299, 0), 2);
        due("source of the last one", x.alarm(299, 1), 11);
        due("one more doesn't begin", x.counts(2, 12, 2), -2);
        due("it is pending", x.whyNot(2, 12), 1);
        due("it would have begun", x.least(2, 1), 32);
        due("and did not", x.flap(2, 1), 12);
        for (int s = 0; s < 16; s++) {
            x.value(s, 1);
        }
        x.tick();
        x.tick();
        due("they are as many though they ended", x.count(5), 0);
        due("count(4)", x.count(4), 300);
    }

    private static void letter() {
        Expect.part("17 letter");
        AlarmTower x = tower(0, 0, 0);
        plain(x);
        x.waits(0, 1, 100, 2);
        for (int i = 0; i < 3; i++) {
            x.hand();
        }
        x.shift(1, 0, 48, 4);
        x.shift(2, 0, 48, 4);
        x.tick();
        x.value(1, 20);
        due("tick", tickWith(x, 2, 20), 1);
        int[] want = {2, 0, 2, 1, 2, -2, 0, 2, 0};
        for (int what = 0; what < want.length; what++) {
            due("letter(0, " + what + ")", x.letter(0, what), want[what]);
        }
        due("letter(0, -1)", x.letter(0, -1), -1);
        due("letter(0, 9)", x.letter(0, 9), -1);
        due("letter(-1, 0)", x.letter(-1, 0), -1);
        due("letter(1, 0)", x.letter(1, 0), -1);
        due("letter(MIN, MAX)", x.letter(MIN, MAX), -1);
        due("answer", x.answer(0, 1), 0);
        due("who", x.letter(0, 5), 1);
        due("when", x.letter(0, 6), 3);
        x.tick();
        due("it goes up no more", ticks(x, 10), 0);
        due("it went to", x.letter(0, 3), 1);
        due("it went at", x.letter(0, 4), 2);
        x.value(1, 5);
        due("tick", tickWith(x, 2, 5), 1);
        due("it closed its group", x.letter(1, 8), 1);
        due("a closing one went to", x.letter(1, 3), 1);
    }

    private static void letterRow() {
        AlarmTower x = tower(0);
        plain(x);
        x.waits(0, 50, 100, 3);
        for (int i = 0; i < 4; i++) {
            x.hand();
        }
        x.shift(0, 0, 48, 9);
        x.shift(2, 0, 48, 7);
        x.shift(2, 1, 1, 3);
        x.shift(3, 0, 48, 3);
        x.shift(1, 20, 20, 0);
        due("sent", tickWith(x, 0, 20), 1);
        int[] hands = {2, 2, 2, 3, 3, 3, 0, 0, 0, -2, -2};
        int[] since = {1, 1, 1, 4, 4, 4, 7, 7, 7, 10, 10};
        due("row", x.letter(0, 7), 3);
        // told later, it does not change the row of what was sent
        x.shift(1, 0, 48, 0);
        x.swap(2, 3, 1, 100);
        for (int t = 1; t <= 11; t++) {
            due("it went to, tick " + t, x.letter(0, 3), hands[t - 1]);
            due("it went at, tick " + t, x.letter(0, 4), since[t - 1]);
            due("row, tick " + t, x.letter(0, 7), 3);
            x.tick();
        }
        // up is looked at in each tick, as it is told then
        x = tower(0);
        plain(x);
        x.hand();
        x.shift(0, 0, 48, 9);
        x.waits(0, 50, 100, 50);
        tickWith(x, 0, 20);
        ticks(x, 9);
        due("it went to", x.letter(0, 3), 0);
        x.waits(0, 50, 100, 4);
        x.tick();
        due("it went to all", x.letter(0, 3), -2);
        due("it went to all at", x.letter(0, 4), 11);
        // nobody is awake: to all at once
        x = tower(0);
        plain(x);
        x.hand();
        x.shift(0, 30, 2, 9);
        x.waits(0, 50, 100, 1);
        tickWith(x, 0, 20);
        due("to all", x.letter(0, 3), -2);
        due("to all at", x.letter(0, 4), 1);
        due("row", x.letter(0, 7), 0);
        ticks(x, 5);
        due("to all at", x.letter(0, 4), 1);
        // up is 3 at first
        x = tower(0);
        plain(x);
        x.hand();
        x.shift(0, 0, 48, 9);
        ticks20(x, 5);
        due("to the hand, before 3 ticks", x.letter(0, 3), 0);
        x.tick();
        due("to all, 3 ticks later", x.letter(0, 3), -2);
    }

    private static void letterEnds() {
        // clear ones by numbers, and then those that ended
        AlarmTower x = tower(0, 0, 0, 0);
        plain(x);
        x.hand();
        x.waits(0, 1, 100, 1);
        x.value(0, 20);
        x.value(1, 20);
        due("letter 0", tickWith(x, 2, 20), 1);
        x.value(0, 5);
        due("letter 1", tickWith(x, 3, 20), 1);
        int[] first = {1, 2, 3, 0};
        due("how many", x.letter(1, 2), 4);
        for (int i = 0; i < 4; i++) {
            due("holds(1, " + i + ")", x.holds(1, i), first[i]);
        }
        x.value(0, 20);
        due("letter 2", x.tick(), 1);
        due("those that were told to have ended are not told again", x.letter(2, 2), 4);
        due("holds(2, 3)", x.holds(2, 3), 4);
        // an alarm that was told, then silenced, ends while another is told; a closing letter may be empty
        x = tower(0, 0);
        plain(x);
        x.hand();
        x.waits(0, 1, 1, 1);
        due("told", tickWith(x, 0, 20), 1);
        x.silence(-1, -1, 2, 100, 0);
        due("silenced", tickWith(x, 1, 20), 0);
        due("ends, while one lasts", tickWith(x, 0, 5), 0);
        due("none lasts", tickWith(x, 1, 5), 1);
        due("only the one that was told", x.letter(1, 2), 1);
        due("it", x.holds(1, 0), 0);
        // the end is told while one lasts, which then ends untold
        x = tower(0, 0, 0);
        plain(x);
        x.hand();
        x.waits(0, 1, 1, 1);
        due("told", tickWith(x, 0, 20), 1);
        x.value(0, 5);
        x.value(1, 20);
        due("its end and another", x.tick(), 1);
        x.silence(-1, -1, 3, 3, 0);
        due("silenced", tickWith(x, 2, 20), 0);
        x.value(1, 5);
        due("the end of the other, one begins", x.tick(), 1);
        due("first", x.holds(2, 0), 2);
        due("then", x.holds(2, 1), 1);
        x.silence(-1, -1, 5, 6, 0);
        due("silenced", x.tick(), 0);
        due("ends", tickWith(x, 2, 5), 1);
        due("how many", x.letter(3, 2), 1);
        closingLetter();
        fullLetter();
    }

    private static void closingLetter() {
        AlarmTower x = tower(0, 0);
        x.rule(0, 10, 0, 10101, -1);
        x.hand();
        x.waits(0, 1, 100, 1);
        due("alarm 0 is told", tickWith(x, 0, 20), 1);
        x.value(0, 5);
        due("alarm 1, and the end of alarm 0", tickWith(x, 1, 20), 1);
        x.value(1, 5);
        x.silence(-1, -1, 3, 4, 0);
        due("alarm 2 is silenced, alarm 1 ended", tickWith(x, 0, 20), 0);
        due("alarm 2 ended: the closing one tells of alarm 1", tickWith(x, 0, 5), 1);
        due("how many", x.letter(2, 2), 1);
        due("first", x.letter(2, 1), 1);
        // two alarms of one source
        x = tower(0);
        x.rule(0, 10, 0, 10101, -1);
        x.rule(0, 10, 0, 10101, -1);
        x.waits(0, 1, 100, 1);
        x.value(0, 20);
        due("both", x.tick(), 1);
        due("both", x.letter(0, 2), 2);
        due("both end", tickWith(x, 0, 5), 1);
        due("both", x.letter(1, 2), 2);
    }

    private static void fullLetter() {
        // 48 alarms in one group: 40 are in the first letter, then the 8 that were not stay fresh
        AlarmTower x = new AlarmTower();
        for (int s = 0; s < 16; s++) {
            x.source(0);
        }
        x.rule(0, 10, 0, 10101, -1);
        x.rule(0, 10, 0, 10101, -1);
        x.rule(0, 10, 0, 10101, -1);
        x.waits(0, 1, 100, 1);
        for (int s = 0; s < 16; s++) {
            x.value(s, 20);
        }
        due("sent", x.tick(), 1);
        due("the first 40", x.letter(0, 2), 40);
        due("holds(0, 39)", x.holds(0, 39), 39);
        due("holds(0, 40)", x.holds(0, 40), -1);
        due("alarm(39, 8)", x.alarm(39, 8), 1);
        due("alarm(40, 8)", x.alarm(40, 8), 0);
        due("whyNot of alarm 40", x.whyNot(2, 8), 5);
        for (int s = 0; s < 8; s++) {
            x.value(s, 5);
        }
        due("sent", x.tick(), 1);
        due("24 are clear, 16 of 24 that ended", x.letter(1, 2), 40);
        due("first", x.letter(1, 1), 8);
        due("the last clear one", x.holds(1, 23), 47);
        due("the first that ended", x.holds(1, 24), 0);
        due("the last that ended", x.holds(1, 39), 23);
        for (int s = 8; s < 16; s++) {
            x.value(s, 5);
        }
        due("none lasts", x.tick(), 1);
        due("8 left and 24 new", x.letter(2, 2), 32);
        due("first", x.letter(2, 1), 8);
        due("why", x.why(2), 4);
    }

    private static void holds() {
        Expect.part("18 holds");
        AlarmTower x = tower(0, 0);
        due("no letter", x.holds(0, 0), -1);
        plain(x);
        x.waits(0, 1, 100, 1);
        x.value(0, 20);
        tickWith(x, 1, 20);
        due("holds(0, 0)", x.holds(0, 0), 0);
        due("holds(0, 1)", x.holds(0, 1), 1);
        due("holds(0, 2)", x.holds(0, 2), -1);
        due("holds(0, -1)", x.holds(0, -1), -1);
        due("holds(1, 0)", x.holds(1, 0), -1);
        due("holds(-1, 0)", x.holds(-1, 0), -1);
        due("holds(MIN, MIN)", x.holds(MIN, MIN), -1);
        due("holds(MAX, MAX)", x.holds(MAX, MAX), -1);
    }

    private static void why() {
        Expect.part("19 why");
        AlarmTower x = tower(0, 0);
        due("no letter", x.why(0), -1);
        plain(x);
        x.waits(0, 2, 4, 1);
        due("first", tickWith(x, 0, 20), 1);
        x.tick();
        due("again", tickWith(x, 1, 20), 1);
        due("each", ticks(x, 4), 1);
        x.value(0, 5);
        due("none lasts", tickWith(x, 1, 5), 1);
        for (int i = 0; i < 4; i++) {
            due("why(" + i + ")", x.why(i), i + 1);
        }
        due("why(-1)", x.why(-1), -1);
        due("why(4)", x.why(4), -1);
        due("fresh, and each", tickWith(x, 0, 20), 1);
        due("why", x.why(4), 1);
        ticks(x, 3);
        due("fresh and clear for each", tickWith(x, 1, 20), 1);
        due("why", x.why(5), 2);
        // again is longer than each: it is sent since one was clear
        x = tower(0, 0);
        plain(x);
        x.waits(0, 9, 2, 1);
        due("first", tickWith(x, 0, 20), 1);
        x.tick();
        due("each", tickWith(x, 1, 20), 1);
        due("why", x.why(1), 3);
    }

    private static void whyNot() {
        Expect.part("20 whyNot");
        AlarmTower x = tower(0);
        due("no rule", x.whyNot(0, 0), -1);
        x.rule(0, 10, 0, 10201, -1);
        x.rule(0, 10, 0, 10102, -1);
        x.rule(0, 50, 0, 10101, -1);
        x.hand();
        x.hold(1, 2, 2);
        x.waits(1, 1, 100, 1);
        int[][] bad = {{-1, 0}, {3, 0}, {0, -1}, {0, 1}, {MIN, MAX}};
        for (int[] b : bad) {
            due("whyNot(" + b[0] + ", " + b[1] + ")", x.whyNot(b[0], b[1]), -1);
        }
        due("nothing at first", x.whyNot(1, 0), 0);
        tickWith(x, 0, 20);
        due("pending", x.whyNot(1, 0), 1);
        due("it waits", x.whyNot(0, 0), 5);
        due("nothing", x.whyNot(2, 0), 0);
        x.silence(0, 1, 3, 4, 0);
        tickWith(x, 0, 20);
        due("in a letter", x.whyNot(1, 0), 4);
        due("in a letter", x.whyNot(0, 0), 4);
        tickWith(x, 0, 60);
        due("held, and silenced", x.whyNot(1, 0), 2);
        tickWith(x, 0, 20);
        due("silenced", x.whyNot(1, 0), 3);
        x.waits(1, 9, 100, 1);
        tickWith(x, 0, 20);
        due("clear again, it waits", x.whyNot(1, 0), 5);
        tickWith(x, 0, 5);
        due("nothing any more", x.whyNot(1, 0), 0);
        due("it lasts with falses", x.whyNot(0, 0), 4);
    }

    // ------------------------------------------------------------------ 21 to 32

    private static void awake() {
        Expect.part("21 awake");
        AlarmTower x = new AlarmTower();
        for (int i = 0; i < 4; i++) {
            x.hand();
        }
        due("awake(0, 0)", x.awake(0, 0), -1);
        due("awake(1001, 0)", x.awake(1001, 0), -1);
        due("awake(1, -1)", x.awake(1, -1), -1);
        due("awake(MIN, MIN)", x.awake(MIN, MIN), -1);
        due("awake(MAX, MAX)", x.awake(MAX, MAX), -1);
        due("nobody", x.awake(1, 0), -2);
        x.shift(3, 0, 48, 0);
        x.shift(2, 0, 48, 5);
        x.shift(1, 0, 48, 5);
        x.shift(0, 0, 48, 8);
        int[] row = {3, 1, 2, 0, -2, -2};
        for (int i = 0; i < row.length; i++) {
            due("awake(1000, " + i + ")", x.awake(1000, i), row[i]);
        }
        due("awake(1, MAX)", x.awake(1, MAX), -2);
        x.shift(0, 10, 5, 5);
        due("its least step", x.awake(12, 1), 0);
        due("then the others", x.awake(12, 2), 1);
        due("its step at another tick", x.awake(15, 3), 0);
        due("changes nothing", x.awake(12, 0), 3);
    }

    private static void answer() {
        Expect.part("22 answer");
        AlarmTower x = tower(0);
        plain(x);
        due("no letter", x.answer(0, 0), -1);
        x.waits(0, 50, 100, 2);
        for (int i = 0; i < 3; i++) {
            x.hand();
        }
        x.shift(2, 0, 48, 0);
        x.shift(0, 0, 48, 1);
        tickWith(x, 0, 20);
        due("answer(-1, 0)", x.answer(-1, 0), -1);
        due("answer(1, 0)", x.answer(1, 0), -1);
        due("answer(0, -1)", x.answer(0, -1), -1);
        due("answer(0, 3)", x.answer(0, 3), -1);
        due("it didn't go to it", x.answer(0, 0), -2);
        due("it isn't in its row", x.answer(0, 1), -2);
        ticks(x, 2);
        due("it went up", x.letter(0, 3), 0);
        due("the first in the row may still", x.answer(0, 2), 0);
        due("who", x.letter(0, 5), 2);
        due("when", x.letter(0, 6), 4);
        due("answered", x.answer(0, 0), -3);
        due("answered, it didn't go to it", x.answer(0, 1), -2);
        due("the first one counts", x.letter(0, 5), 2);
        ticks(x, 10);
        due("it goes up no more", x.letter(0, 3), 0);
        // to all: any, also one that comes later
        x = tower(0);
        plain(x);
        x.waits(0, 50, 100, 2);
        tickWith(x, 0, 20);
        due("no hand", x.answer(0, 0), -1);
        x.hand();
        due("to all", x.answer(0, 0), 0);
        due("again", x.answer(0, 0), -3);
        due("count(7)", x.count(7), 0);
    }

    private static void noise() {
        Expect.part("23 noise");
        AlarmTower x = tower(0, 1);
        plain(x);
        due("no hand", x.noise(0), -1);
        x.waits(0, 50, 100, 2);
        for (int i = 0; i < 3; i++) {
            x.hand();
        }
        x.shift(2, 0, 48, 0);
        x.shift(0, 0, 48, 1);
        noiseIs(x, 0, 0, 0);
        tickWith(x, 0, 20);
        noiseIs(x, 0, 0, 1);
        ticks(x, 2);
        noiseIs(x, 1, 0, 1);
        tickWith(x, 1, 20);
        noiseIs(x, 1, 0, 2);
        due("answer", x.answer(1, 2), 0);
        x.tick();
        // the first letter went to all; the second was answered before it went up
        noiseIs(x, 1, 1, 2);
        ticks(x, 10);
        noiseIs(x, 1, 1, 2);
        due("noise(-1)", x.noise(-1), -1);
        due("noise(3)", x.noise(3), -1);
        due("noise(MIN)", x.noise(MIN), -1);
    }

    private static void noiseIs(AlarmTower x, int a, int b, int c) {
        int t = x.count(3);
        due("noise(0) behind tick " + t, x.noise(0), a);
        due("noise(1) behind tick " + t, x.noise(1), b);
        due("noise(2) behind tick " + t, x.noise(2), c);
    }

    private static void flap() {
        Expect.part("24 flap");
        AlarmTower x = tower(0, 0);
        due("no rule", x.flap(0, 1), -1);
        plain(x);
        x.rule(0, 1000, 0, 10101, -1);
        due("flap(-1, 1)", x.flap(-1, 1), -1);
        due("flap(2, 1)", x.flap(2, 1), -1);
        due("flap(0, 0)", x.flap(0, 0), -1);
        due("flap(0, 2001)", x.flap(0, 2001), -1);
        due("flap(0, MIN)", x.flap(0, MIN), -1);
        due("flap(0, 2000) at first", x.flap(0, 2000), 0);
        tickWith(x, 0, 20);
        tickWith(x, 0, 5);
        x.value(0, 20);
        tickWith(x, 1, 20);
        x.tick();
        tickWith(x, 1, 5);
        int[] want = {1, 1, 3, 4, 5, 5};
        for (int n = 1; n <= 6; n++) {
            due("flap(0, " + n + ")", x.flap(0, n), want[n - 1]);
        }
        due("flap(0, 2000)", x.flap(0, 2000), 5);
        due("flap(1, 2000)", x.flap(1, 2000), 0);
        tickWith(x, 0, 5);
        due("flap(0, 1)", x.flap(0, 1), 1);
        x.tick();
        due("flap(0, 1)", x.flap(0, 1), 0);
    }

    private static void least() {
        Expect.part("25 least");
        AlarmTower x = tower(0, 0);
        due("no rule", x.least(0, 1), -1);
        tickWith(x, 0, 20);
        x.rule(0, 10, 0, 10203, -1);
        due("least(-1, 1)", x.least(-1, 1), -1);
        due("least(1, 1)", x.least(1, 1), -1);
        due("least(0, 0)", x.least(0, 0), -1);
        due("least(0, 11)", x.least(0, 11), -1);
        due("since it came", x.least(0, 1), 0);
        // truths: 1 1 - 1 0 1 0 0 1 1 0 0 1
        double[] v = {20, 20, SILENT, 20, 5, 20, 5, 5, 20, 20, 5, 5, 20};
        for (double each : v) {
            if (each == each) {
                x.value(0, each);
            }
            x.tick();
        }
        int[] want = {3, 2, 1, 0, 0, 0, 0, 0, 0, 0};
        for (int p = 1; p <= 10; p++) {
            due("least(0, " + p + ")", x.least(0, p), want[p - 1]);
        }
        due("its own is what began", x.count(4), 1);
        x = tower(0);
        plain(x);
        ticks20(x, 9);
        due("least(0, 10)", x.least(0, 10), 0);
        ticks20(x, 1);
        due("least(0, 10)", x.least(0, 10), 1);
        due("nothing changes", x.count(4), 1);
    }

    private static void count() {
        Expect.part("26 count");
        AlarmTower x = tower(0, 1, 2);
        plain(x);
        plain(x);
        x.hand();
        x.waits(0, 1, 100, 1);
        x.value(0, 20);
        x.value(1, 20);
        due("tick", x.tick(), 2);
        due("answer", x.answer(0, 0), 0);
        due("tick", tickWith(x, 0, 5), 1);
        int[] want = {3, 2, 1, 2, 4, 2, 3, 2, 2};
        for (int what = 0; what < want.length; what++) {
            due("count(" + what + ")", x.count(what), want[what]);
        }
        due("the first letter is not answered", answeredLess(), 1);
        due("count(-1)", x.count(-1), -1);
        due("count(9)", x.count(9), -1);
        due("count(MIN)", x.count(MIN), -1);
        due("count(MAX)", x.count(MAX), -1);
    }

    /** Of two letters the second is answered: how many are not. */
    private static int answeredLess() {
        AlarmTower x = tower(0, 1);
        plain(x);
        x.hand();
        x.waits(0, 1, 100, 1);
        x.value(0, 20);
        tickWith(x, 1, 20);
        due("count(7)", x.count(7), 2);
        x.answer(1, 0);
        return x.count(7);
    }

    private static void keep() {
        Expect.part("27 keep");
        AlarmTower x = tower(0, 0);
        plain(x);
        due("keep(-1, 0, 0)", x.keep(-1, 0, 0), -1);
        due("keep(8, 0, 0)", x.keep(8, 0, 0), -1);
        due("keep(0, -1, 0)", x.keep(0, -1, 0), -1);
        due("keep(0, 5, 0)", x.keep(0, 5, 0), -1);
        due("no alarm", x.keep(0, 1, 0), -1);
        due("no source", x.keep(0, 3, 2), -1);
        due("no source", x.keep(0, 4, -1), -1);
        due("a refused one changes nothing", x.weight(0), -11);
        due("a row when none is closed", x.keep(0, 3, 0), 0);
        due("it has no place", state(x, 0, 0), 2);
        due("it is a row", x.copy(0, 0, 0, 0, 0), 0);
        tickWith(x, 0, 20);
        due("an alarm", x.keep(1, 1, 0), 0);
        due("its weight", x.weight(1), 10);
        due("no such alarm", x.keep(1, 1, 1), -1);
        due("no such alarm", x.keep(1, 1, -1), -1);
        due("a refused one changes nothing", x.weight(1), 10);
        due("a note", x.keep(1, 2, MIN), 0);
        due("it is no alarm", x.weight(1), -12);
        due("it is no row", state(x, 1, 0), 2);
        due("nothing", x.keep(1, 0, MIN), 0);
        due("nothing is held", x.weight(1), -11);
        due("nothing is held", x.copy(1, 0, 1, 0, 0), -11);
        x.value(0, 33);
        due("a row", x.keep(2, 3, 0), 0);
        due("the open tick is not in it", state(x, 2, 1), 2);
        due("its first", x.element(2, 0), 20);
        x.tick();
        due("a row stays as it was", state(x, 2, 1), 2);
        x.tick();
        for (int t = 4; t <= 60; t++) {
            tickWith(x, 0, t);
        }
        x.keep(3, 3, 0);
        x.keep(4, 4, 0);
        due("60 places", state(x, 3, 59), 0);
        due("60 places", state(x, 3, 60), 2);
        due("tick 1", x.element(3, 0), 20);
        due("silent in tick 3", x.element(3, 2), 0);
        due("silent in tick 3", x.element(4, 2), 0);
        due("tick 4", x.element(3, 3), 4);
        due("tick 4", x.element(4, 3), 1);
        tickWith(x, 0, 0);
        tickWith(x, 0, -7);
        x.keep(3, 3, 0);
        x.keep(4, 4, 0);
        x.keep(5, 4, 1);
        due("60 places", state(x, 3, 60), 2);
        due("the first is tick 3", x.element(4, 0), 0);
        due("then tick 4", x.element(3, 1), 4);
        due("a 0 that was told", x.element(4, 58), 1);
        due("a 0 that was told", x.element(3, 58), 0);
        due("the latest", x.element(3, 59), -7);
        due("the latest", x.element(4, 59), 1);
        due("another source", x.element(5, 59), 0);
        x.source(0);
        x.keep(6, 4, 2);
        due("one that came later", x.element(6, 59), 0);
    }

    private static void make() {
        Expect.part("28 make");
        AlarmTower x = tower(0);
        plain(x);
        tickWith(x, 0, 20);
        x.keep(0, 2, 5);
        int[][] bad = {{-1, 3, 1}, {8, 3, 1}, {0, 2, 1}, {0, 5, 1}, {0, 0, 1}, {0, 1, 1}, {0, 3, 61}, {0, 4, MAX}, {8, 3, -1},
            {0, 2, -1}};
        for (int[] b : bad) {
            due("make(" + b[0] + ", " + b[1] + ", " + b[2] + ")", x.make(b[0], b[1], b[2]), -1);
        }
        due("make(0, 3, -1)", x.make(0, 3, -1), -14);
        due("make(0, 4, MIN)", x.make(0, 4, MIN), -14);
        due("a refused one changes nothing", x.weight(0), -12);
        due("make(0, 3, 0)", x.make(0, 3, 0), 0);
        due("no place", state(x, 0, 0), 2);
        due("make(0, 3, 60)", x.make(0, 3, 60), 0);
        due("element(0, 59)", x.element(0, 59), 0);
        due("no place", state(x, 0, 60), 2);
        x.keep(1, 3, 0);
        due("copy", x.copy(1, 0, 0, 3, 1), 1);
        due("element(0, 3)", x.element(0, 3), 20);
        due("make(0, 3, 5)", x.make(0, 3, 5), 0);
        due("longs 0", x.element(0, 3), 0);
        due("make(7, 4, 2)", x.make(7, 4, 2), 0);
        due("booleans false", x.element(7, 1), 0);
        due("booleans are no longs", x.copy(7, 0, 0, 0, 1), -12);
        x.keep(2, 1, 0);
        due("make over an alarm", x.make(2, 3, 1), 0);
        due("no alarm any more", x.weight(2), -12);
    }

    private static void element() {
        Expect.part("29 element");
        AlarmTower x = tower(0);
        plain(x);
        tickWith(x, 0, 20);
        x.keep(1, 1, 0);
        x.keep(2, 2, 0);
        x.keep(3, 3, 0);
        x.keep(4, 4, 0);
        due("element(-1, 0)", state(x, -1, 0), 1);
        due("element(8, 0)", state(x, 8, 0), 1);
        due("element(MIN, MIN)", state(x, MIN, MIN), 1);
        due("nothing is held", state(x, 0, 0), 2);
        due("an alarm", state(x, 1, 0), 2);
        due("a note", state(x, 2, 0), 2);
        due("a row", state(x, 3, 0), 0);
        due("no such place", state(x, 3, 1), 2);
        due("no such place", state(x, 3, -1), 2);
        due("no such place", state(x, 4, MAX), 2);
        due("no such place", state(x, 4, MIN), 2);
        due("a long", x.element(3, 0), 20);
        due("a boolean", x.element(4, 0), 1);
        tickWith(x, 0, -1000000000000.0);
        x.keep(3, 3, 0);
        due("a long", x.element(3, 1), -1000000000000L);
    }

    private static void copy() {
        Expect.part("30 copy");
        AlarmTower x = tower(0);
        plain(x);
        for (int t = 1; t <= 6; t++) {
            tickWith(x, 0, 10 + t);
        }
        x.keep(1, 1, 0);
        x.keep(2, 2, 0);
        x.keep(3, 3, 0);
        x.keep(4, 4, 0);
        x.make(5, 3, 4);
        due("copy(-1)", x.copy(-1, 0, 3, 0, 1), -1);
        due("copy(8)", x.copy(8, 0, 3, 0, 1), -1);
        due("copy(e -1)", x.copy(3, 0, -1, 0, 1), -1);
        due("copy(e 8)", x.copy(3, 0, 8, 0, 1), -1);
        due("nothing is held", x.copy(0, 0, 3, 0, 1), -11);
        due("nothing is held", x.copy(3, 0, 0, 0, 1), -11);
        due("nothing is held, and a note", x.copy(2, 0, 0, 0, 1), -11);
        due("no board, and nothing", x.copy(0, 0, 8, 0, 1), -1);
        due("an alarm", x.copy(1, 0, 3, 0, 1), -12);
        due("a note", x.copy(3, 0, 2, 0, -1), -12);
        due("two notes", x.copy(2, 0, 2, 0, 0), -12);
        due("two alarms", x.copy(1, 0, 1, 0, 0), -12);
        due("longs and booleans", x.copy(3, 0, 4, 0, 0), -12);
        int[][] bad = {{-1, 0, 1}, {0, -1, 1}, {0, 0, -1}, {6, 0, 1}, {0, 4, 1}, {0, 0, 5}, {3, 0, 4}, {0, 2, 3}, {7, 0, 0},
            {0, 5, 0}, {MAX, 0, 1}, {1, 1, MAX}, {MIN, MIN, MIN}, {MAX, MAX, MAX}};
        for (int[] b : bad) {
            due("copy(3, " + b[0] + ", 5, " + b[1] + ", " + b[2] + ")", x.copy(3, b[0], 5, b[1], b[2]), -13);
        }
        row(x, 5, 0, 0, 0, 0);
        due("none, at the ends", x.copy(3, 6, 5, 4, 0), 0);
        due("two", x.copy(3, 1, 5, 2, 2), 2);
        row(x, 5, 0, 0, 12, 13);
        due("all", x.copy(3, 2, 5, 0, 4), 4);
        row(x, 5, 13, 14, 15, 16);
        due("as they were before, up", x.copy(5, 0, 5, 1, 3), 3);
        row(x, 5, 13, 13, 14, 15);
        due("as they were before, down", x.copy(5, 1, 5, 0, 3), 3);
        row(x, 5, 13, 14, 15, 15);
        row(x, 3, 11, 12, 13, 14);
        x.make(6, 4, 3);
        due("booleans", x.copy(4, 0, 6, 1, 2), 2);
        row(x, 6, 0, 1, 1);
    }

    private static void row(AlarmTower x, int d, long... want) {
        for (int i = 0; i < want.length; i++) {
            due("element(" + d + ", " + i + ")", x.element(d, i), want[i]);
        }
    }

    /** A tower with one alarm of each kind, grade 1 + kind modulo 5, alarm 0 of kind 0, and so on. */
    private static AlarmTower kinds() {
        AlarmTower x = tower(0, 1);
        x.rule(0, 10, 0, 10101, 0);
        x.rule(1, 10, 0, 20101, 0);
        x.rule(102, 10, 0, 30101, 0);
        x.rule(103, 10, 50, 40101, 0);
        x.rule(104, 10, 0, 50101, 1);
        x.rule(305, 10, 0, 10101, 0);
        x.rule(6, 5, 5, 20101, 0);
        x.value(1, 1);
        tickWith(x, 0, 0);
        x.value(1, 1);
        tickWith(x, 0, 0);
        x.value(1, 1);
        tickWith(x, 0, 0);
        tickWith(x, 0, 50);
        return x;
    }

    private static void weight() {
        Expect.part("31 weight");
        AlarmTower x = kinds();
        int[] kindOf = {0, 1, 2, 3, 4, 5, 6};
        // the rule of kind 3 (a part of all the values of two ticks) is true too
        int[] want = {10, 121, 132, 1143, 154, 1115, 126};
        due("alarms", x.count(4), kindOf.length);
        for (int a = 0; a < want.length; a++) {
            x.keep(a, 1, a);
            due("weight of kind " + kindOf[a], x.weight(a), want[a]);
        }
        due("nothing is held", x.weight(7), -11);
        x.keep(7, 2, 0);
        due("a note", x.weight(7), -12);
        x.keep(7, 3, 0);
        due("a row", x.weight(7), -12);
        due("weight(-1)", x.weight(-1), -1);
        due("weight(8)", x.weight(8), -1);
        due("weight(MIN)", x.weight(MIN), -1);
    }

    private static void toss() {
        Expect.part("32 toss");
        AlarmTower x = kinds();
        for (int a = 0; a < 7; a++) {
            x.keep(a, 1, a);
            due("toss of alarm " + a, x.toss(a), a == 0 ? -15 : a);
        }
        due("nothing is held", x.toss(7), -11);
        x.keep(7, 2, 0);
        due("a note", x.toss(7), -12);
        x.keep(7, 4, 0);
        due("a row", x.toss(7), -12);
        due("toss(-1)", x.toss(-1), -1);
        due("toss(8)", x.toss(8), -1);
        due("toss(MAX)", x.toss(MAX), -1);
        AlarmTower y = tower(0);
        plain(y);
        y.rule(1, 10, 10, 10101, -1);
        tickWith(y, 0, 5);
        y.rule(0, 10, 0, 10101, -1);
        tickWith(y, 0, 20);
        y.keep(0, 1, 1);
        due("its rule, not its number of kind", y.toss(0), 1);
    }
}
