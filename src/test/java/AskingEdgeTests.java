/**
 * Promises 14 to 26: for each sentence that names an edge a test of its own. What is refused stands in RefusalTests as
 * well.
 */
public final class AskingEdgeTests extends Towers {

    private AskingEdgeTests() {
    }

    public static void main(String[] args) {
        truthOfTheLatestClosed();
        truthWhenNoneWasClosed();
        truthOfNoSuch();
        countsWithoutAnAlarm();
        countsOfNoSuch();
        alarmsTickOfItsEnd();
        alarmsHeldBehindTheLatestTick();
        alarmsSilencedBehindTheLatestTick();
        alarmsClearSince();
        alarmsLetters();
        alarmsOfNoSuch();
        lettersFirstAlarm();
        lettersHandAndTick();
        lettersAnswer();
        lettersRow();
        lettersClosing();
        lettersOfNoSuch();
        holdsFrom0();
        whyTheFirstThatHeld();
        whyNotTheFirstThatHolds();
        whyNotBehindTheLatestTick();
        awakeTicksFrom1To1000();
        awakeNotSoMany();
        awakeAsTold();
        noiseOfThoseToAll();
        noiseOfAnsweredOnes();
        flapTicksFrom1To2000();
        flapEachCounts();
        leastFrom1To10();
        leastSinceItCame();
        leastRoomOrNot();
        leastChangesNothing();
        countOfEach();
        countThatLast();
        countNotAnswered();
        countOf9();
        Expect.end();
    }

    // ------------------------------------------------------------------ 14, 15

    private static void truthOfTheLatestClosed() {
        Expect.part("14: in the latest tick that was closed");
        AlarmTower x = tower(0);
        plain(x);
        tell(x, 20);
        x.value(0, 5);
        due("not in the open one", x.truth(0, 0), 1);
        x.tick();
        due("in the latest", x.truth(0, 0), 0);
        x.tick();
        due("neither", x.truth(0, 0), -1);
        due("a rule that came behind it", x.truth(plain(x), 0), -1);
        due("a source that came behind it", x.truth(0, x.source(0)), -1);
    }

    private static void truthWhenNoneWasClosed() {
        Expect.part("14: -3: none was closed");
        AlarmTower x = tower(0);
        plain(x);
        x.value(0, 20);
        due("before tick 1 is closed", x.truth(0, 0), -3);
        x.tick();
        due("behind it", x.truth(0, 0), 1);
    }

    private static void truthOfNoSuch() {
        Expect.part("14: -2: no such RULE, SOURCE");
        AlarmTower x = tower(0, 0);
        due("no rule at all", x.truth(0, 0), -2);
        plain(x);
        due("the last source", x.truth(0, 1), -3);
        due("behind it", x.truth(0, 2), -2);
        due("before the first", x.truth(0, -1), -2);
        due("the rule behind the last", x.truth(1, 0), -2);
        due("the rule before the first", x.truth(-1, 0), -2);
        x.tick();
        due("the last source", x.truth(0, 1), -1);
        due("behind it", x.truth(0, 2), -2);
        due("the rule behind the last", x.truth(1, 0), -2);
        AlarmTower y = new AlarmTower();
        plain(y);
        due("no source at all", y.truth(0, 0), -2);
    }

    private static void countsWithoutAnAlarm() {
        Expect.part("15: 2 the ALARM that lasts, -2 without");
        AlarmTower x = tower(0);
        x.rule(0, 10, 0, 10202, -1);
        due("none yet", x.counts(0, 0, 2), -2);
        ticks20(x, 1);
        due("pending", x.counts(0, 0, 2), -2);
        ticks20(x, 1);
        due("it begins", x.counts(0, 0, 2), 0);
        tell(x, 5);
        due("it lasts", x.counts(0, 0, 2), 0);
        tell(x, 5);
        due("it ended", x.counts(0, 0, 2), -2);
        ticks20(x, 2);
        due("the next", x.counts(0, 0, 2), 1);
    }

    private static void countsOfNoSuch() {
        Expect.part("15: -1");
        AlarmTower x = tower(0);
        due("no rule", x.counts(0, 0, 0), -1);
        plain(x);
        for (int what = 0; what <= 2; what++) {
            due("what " + what, x.counts(0, 0, what), what == 2 ? -2 : 0);
            due("rule 1", x.counts(1, 0, what), -1);
            due("rule -1", x.counts(-1, 0, what), -1);
            due("source 1", x.counts(0, 1, what), -1);
            due("source -1", x.counts(0, -1, what), -1);
        }
        due("what -1", x.counts(0, 0, -1), -1);
        due("what 3", x.counts(0, 0, 3), -1);
    }

    // ------------------------------------------------------------------ 16

    private static void alarmsTickOfItsEnd() {
        Expect.part("16: 3 in which it ended (0: it lasts)");
        AlarmTower x = tower(0);
        plain(x);
        tell(x, 5);
        tell(x, 20);
        due("began", x.alarm(0, 2), 2);
        due("lasts", x.alarm(0, 3), 0);
        tell(x, 20);
        due("lasts", x.alarm(0, 3), 0);
        tell(x, 5);
        due("ended", x.alarm(0, 3), 4);
        due("began, still", x.alarm(0, 2), 2);
    }

    private static void alarmsHeldBehindTheLatestTick() {
        Expect.part("16: held as behind the latest tick");
        AlarmTower x = tower(0);
        plain(x);
        plain(x);
        tell(x, 20);
        x.hold(0, 1, 0);
        due("told since", x.alarm(0, 5), 0);
        due("clear still", x.alarm(0, 7), 1);
        x.tick();
        due("in the next", x.alarm(0, 5), 1);
        due("clear no more", x.alarm(0, 7), 0);
    }

    private static void alarmsSilencedBehindTheLatestTick() {
        Expect.part("16: SILENCED as behind the latest tick");
        AlarmTower x = tower(0);
        plain(x);
        x.hand();
        tell(x, 20);
        x.silence(-1, -1, 1, 2, 0);
        due("told since", x.alarm(0, 6), 0);
        due("clear still", x.alarm(0, 7), 1);
        x.tick();
        due("in tick 2", x.alarm(0, 6), 1);
        due("clear no more", x.alarm(0, 7), 0);
        x.tick();
        due("in tick 3", x.alarm(0, 6), 0);
        due("clear again", x.alarm(0, 7), 3);
    }

    private static void alarmsClearSince() {
        Expect.part("16: 7 since which tick it is CLEAR (0: it isn't)");
        AlarmTower x = tower(0);
        plain(x);
        x.hand();
        x.silence(-1, -1, 2, 2, 0);
        x.tick();
        tell(x, 20);
        due("silenced from its first tick on", x.alarm(0, 7), 0);
        tell(x, 20);
        due("clear", x.alarm(0, 7), 3);
        tell(x, 20);
        due("still", x.alarm(0, 7), 3);
        tell(x, 5);
        due("ended", x.alarm(0, 7), 0);
    }

    private static void alarmsLetters() {
        Expect.part("16: 8 in how many LETTERS it was");
        AlarmTower x = tower(0, 0);
        plain(x);
        x.waits(1, 1, 2, 50);
        tell(x, 20);
        due("none yet", x.alarm(0, 8), 0);
        tell(x, 20);
        due("first", x.alarm(0, 8), 1);
        tell(x, 20);
        tell(x, 20);
        due("each", x.alarm(0, 8), 2);
        tell(x, 20, 20);
        due("the other is fresh", x.alarm(0, 8), 3);
        due("the other", x.alarm(1, 8), 1);
        tell(x, 5, 5);
        due("its end", x.alarm(0, 8), 4);
        due("the other's end", x.alarm(1, 8), 2);
    }

    private static void alarmsOfNoSuch() {
        Expect.part("16: -1");
        AlarmTower x = tower(0);
        plain(x);
        due("no alarm at all", x.alarm(0, 0), -1);
        tell(x, 20);
        int[] want = {0, 0, 1, 0, 1, 0, 0, 1, 0};
        for (int what = 0; what <= 8; what++) {
            due("alarm(0, " + what + ")", x.alarm(0, what), want[what]);
            due("alarm(1, " + what + ")", x.alarm(1, what), -1);
            due("alarm(-1, " + what + ")", x.alarm(-1, what), -1);
        }
        due("alarm(0, -1)", x.alarm(0, -1), -1);
        due("alarm(0, 9)", x.alarm(0, 9), -1);
    }

    // ------------------------------------------------------------------ 17 to 19

    /** One alarm, sent in tick 1 to hand 1 and then to hand 0, up 2. */
    private static AlarmTower sentOne() {
        AlarmTower x = tower(0);
        plain(x);
        x.waits(0, 50, 100, 2);
        x.hand();
        x.hand();
        x.hand();
        x.shift(1, 0, 48, 0);
        x.shift(0, 0, 48, 1);
        due("sent", tell(x, 20), 1);
        return x;
    }

    private static void lettersFirstAlarm() {
        Expect.part("17: 1 its first ALARM, 2 how many");
        AlarmTower x = tower(0, 1, 0);
        plain(x);
        x.waits(0, 50, 100, 2);
        due("two groups", tell(x, 20, 20, 20), 2);
        due("the first of letter 0", x.letter(0, 1), 0);
        due("how many", x.letter(0, 2), 2);
        due("the first of letter 1", x.letter(1, 1), 1);
        due("how many", x.letter(1, 2), 1);
    }

    private static void lettersHandAndTick() {
        Expect.part("17: 3 the HAND that it went to last, -2 to ALL, 4 the tick at which it did");
        AlarmTower x = sentOne();
        int[] hands = {1, 1, 0, 0, -2, -2};
        int[] since = {1, 1, 3, 3, 5, 5};
        for (int t = 1; t <= 6; t++) {
            due("hand behind tick " + t, x.letter(0, 3), hands[t - 1]);
            due("tick behind tick " + t, x.letter(0, 4), since[t - 1]);
            due("its own tick behind tick " + t, x.letter(0, 0), 1);
            x.tick();
        }
    }

    private static void lettersAnswer() {
        Expect.part("17: 5 the HAND that answered, -2 without, 6 the tick of that, 0 without");
        AlarmTower x = sentOne();
        due("without", x.letter(0, 5), -2);
        due("without", x.letter(0, 6), 0);
        x.tick();
        due("one that it didn't go to", x.answer(0, 0), -2);
        due("without", x.letter(0, 5), -2);
        due("without", x.letter(0, 6), 0);
        due("answer", x.answer(0, 1), 0);
        due("who", x.letter(0, 5), 1);
        due("the open tick", x.letter(0, 6), 3);
        due("no other answers", x.answer(0, 1), -3);
        ticks(x, 5);
        due("who, later", x.letter(0, 5), 1);
        due("when, later", x.letter(0, 6), 3);
        // hand 0 is no "without"
        AlarmTower y = sentOne();
        ticks(y, 2);
        due("answer", y.answer(0, 0), 0);
        due("who", y.letter(0, 5), 0);
    }

    private static void lettersRow() {
        Expect.part("17: 7 how many HANDS are in its ROW");
        AlarmTower none = tower(0);
        plain(none);
        none.waits(0, 50, 100, 2);
        none.hand();
        tell(none, 20);
        due("none", none.letter(0, 7), 0);
        AlarmTower x = sentOne();
        due("two of three", x.letter(0, 7), 2);
        x.shift(2, 0, 48, 0);
        ticks(x, 6);
        due("two still", x.letter(0, 7), 2);
        AlarmTower all = tower(0);
        plain(all);
        all.waits(0, 50, 100, 1);
        for (int h = 0; h < 8; h++) {
            all.hand();
            all.shift(h, 0, 48, 9 - h);
        }
        tell(all, 20);
        due("all eight", all.letter(0, 7), 8);
        for (int h = 7; h >= 0; h--) {
            due("one after the other", all.letter(0, 3), h);
            all.tick();
        }
        due("to all", all.letter(0, 3), -2);
    }

    private static void lettersClosing() {
        Expect.part("17: 8 whether it closed its GROUP");
        AlarmTower x = sentOne();
        tell(x, 5);
        due("the first", x.letter(0, 8), 0);
        due("the second", x.letter(1, 8), 1);
        due("it goes to someone, too", x.letter(1, 3), 1);
        ticks(x, 2);
        due("and goes up", x.letter(1, 3), 0);
        due("and can be answered", x.answer(1, 0), 0);
    }

    private static void lettersOfNoSuch() {
        Expect.part("17: -1");
        AlarmTower none = tower(0);
        due("no letter at all", none.letter(0, 0), -1);
        AlarmTower x = sentOne();
        int[] want = {1, 0, 1, 1, 1, -2, 0, 2, 0};
        for (int what = 0; what <= 8; what++) {
            due("letter(0, " + what + ")", x.letter(0, what), want[what]);
            due("letter(1, " + what + ")", x.letter(1, what), -1);
            due("letter(-1, " + what + ")", x.letter(-1, what), -1);
        }
        due("letter(0, -1)", x.letter(0, -1), -1);
        due("letter(0, 9)", x.letter(0, 9), -1);
    }

    private static void holdsFrom0() {
        Expect.part("18: ALARM i, from 0, of a LETTER");
        AlarmTower x = tower(1, 0, 0);
        due("no letter", x.holds(0, 0), -1);
        plain(x);
        x.waits(0, 50, 100, 2);
        tell(x, 20, 20, 20);
        due("holds(0, 0)", x.holds(0, 0), 0);
        due("holds(0, 1)", x.holds(0, 1), -1);
        due("holds(1, 0)", x.holds(1, 0), 1);
        due("holds(1, 1)", x.holds(1, 1), 2);
        due("holds(1, 2)", x.holds(1, 2), -1);
        due("holds(1, -1)", x.holds(1, -1), -1);
        due("holds(2, 0)", x.holds(2, 0), -1);
        due("holds(-1, 0)", x.holds(-1, 0), -1);
    }

    private static void whyTheFirstThatHeld() {
        Expect.part("19: the first of these that held");
        AlarmTower x = tower(0, 0, 0);
        plain(x);
        x.waits(0, 3, 3, 50);
        due("not open, fresh, clear", tell(x, 20), 1);
        due("1", x.why(0), 1);
        due("fresh, not yet", tell(x, 20, 20), 0);
        x.tick();
        due("open, fresh, clear", tell(x, 20, 20), 1);
        due("2 goes before 3", x.why(1), 2);
        due("open, clear", ticks(x, 3), 1);
        due("3", x.why(2), 3);
        ticks(x, 2);
        due("open, none lasts, each is over", tell(x, 5, 5), 1);
        due("4", x.why(3), 4);
        due("not open, fresh", tell(x, 20), 1);
        due("1 again", x.why(4), 1);
        due("why(-1)", x.why(-1), -1);
        due("why(5)", x.why(5), -1);
        due("no letter at all", tower(0).why(0), -1);
    }

    private static void whyNotTheFirstThatHolds() {
        Expect.part("20: the first that holds");
        AlarmTower x = tower(0, 6);
        x.rule(0, 10, 0, 10202, 0);
        x.rule(0, 50, 0, 10101, 0);
        x.hand();
        x.hold(0, 1, 2);
        x.silence(-1, 0, 3, 4, 0);
        x.waits(2, 1, 100, 50);
        due("before any tick", x.whyNot(0, 0), 0);
        due("a source that it doesn't look at", x.whyNot(0, 1), 0);
        tell(x, 20);
        due("pending", x.whyNot(0, 0), 1);
        tell(x, 60);
        due("held", x.whyNot(0, 0), 2);
        tell(x, 60);
        due("held and silenced", x.whyNot(0, 0), 2);
        tell(x, 20);
        due("silenced", x.whyNot(0, 0), 3);
        tell(x, 20);
        due("it waits", x.whyNot(0, 0), 5);
        tell(x, 20);
        due("it waits", x.whyNot(0, 0), 5);
        due("sent", tell(x, 20), 1);
        due("it is in a letter", x.whyNot(0, 0), 4);
        tell(x, 5);
        due("false, it lasts", x.whyNot(0, 0), 4);
        tell(x, 5);
        due("it ended", x.whyNot(0, 0), 0);
    }

    private static void whyNotBehindTheLatestTick() {
        Expect.part("20: behind the latest tick");
        AlarmTower x = tower(0);
        plain(x);
        plain(x);
        x.hand();
        x.waits(0, 50, 100, 50);
        x.value(0, 20);
        due("in the open tick", x.whyNot(0, 0), 0);
        x.tick();
        due("in a letter", x.whyNot(0, 0), 4);
        x.hold(0, 1, 0);
        x.silence(-1, 1, 1, 9, 0);
        due("a hold told since", x.whyNot(0, 0), 4);
        due("a silence told since", x.whyNot(1, 0), 4);
        x.tick();
        due("a hold", x.whyNot(0, 0), 2);
        due("a silence", x.whyNot(1, 0), 3);
    }

    // ------------------------------------------------------------------ 21 to 23

    private static void awakeTicksFrom1To1000() {
        Expect.part("21: at a tick (1 .. 1000)");
        AlarmTower x = new AlarmTower();
        x.hand();
        x.shift(0, 0, 48, 0);
        due("0", x.awake(0, 0), -1);
        due("1", x.awake(1, 0), 0);
        due("400", x.awake(400, 0), 0);
        due("401", x.awake(401, 0), 0);
        due("1000", x.awake(1000, 0), 0);
        due("1001", x.awake(1001, 0), -1);
    }

    private static void awakeNotSoMany() {
        Expect.part("21: -2: there are not so many");
        AlarmTower x = new AlarmTower();
        due("no hand", x.awake(1, 0), -2);
        for (int h = 0; h < 8; h++) {
            x.hand();
            due("the one behind the last", x.awake(1, h), -2);
            x.shift(h, 0, 48, 5);
            due("the last", x.awake(1, h), h);
        }
        due("8", x.awake(1, 8), -2);
        due("far", x.awake(1, MAX), -2);
        due("-1", x.awake(1, -1), -1);
        due("0 of none such tick", x.awake(0, 9), -1);
    }

    private static void awakeAsTold() {
        Expect.part("21: those that were AWAKE at a tick");
        AlarmTower x = new AlarmTower();
        x.hand();
        x.hand();
        x.shift(0, 10, 5, 2);
        x.shift(1, 12, 5, 1);
        x.swap(0, 1, 13, 13);
        String[] want = {"", "0", "0", "10", "01", "10", "1", "1", ""};
        for (int t = 9; t <= 17; t++) {
            same("tick " + t, awakeAt(x, t), want[t - 9]);
        }
        ticks(x, 20);
        same("when it is closed", awakeAt(x, 12), "10");
        x.shift(0, 12, 1, 0);
        same("a shift told since", awakeAt(x, 12), "01");
    }

    private static void noiseOfThoseToAll() {
        Expect.part("23: those that went to ALL did");
        AlarmTower x = sentOne();
        int[][] want = {{0, 1, 0}, {0, 1, 0}, {1, 1, 0}, {1, 1, 0}, {1, 1, 1}, {1, 1, 1}};
        for (int t = 1; t <= 6; t++) {
            for (int h = 0; h < 3; h++) {
                due("noise(" + h + ") behind tick " + t, x.noise(h), want[t - 1][h]);
            }
            x.tick();
        }
        due("a hand that comes later", x.noise(x.hand()), 1);
        due("the hand behind it", x.noise(4), -1);
        due("noise(-1)", x.noise(-1), -1);
    }

    private static void noiseOfAnsweredOnes() {
        Expect.part("23: how many LETTERS went to a HAND");
        AlarmTower x = sentOne();
        x.answer(0, 1);
        ticks(x, 10);
        due("hand 1", x.noise(1), 1);
        due("it never went to hand 0", x.noise(0), 0);
        tell(x, 5);
        due("a second one to hand 1", x.noise(1), 2);
        due("not yet to hand 0", x.noise(0), 0);
        ticks(x, 2);
        due("the second one went up", x.noise(0), 1);
    }

    // ------------------------------------------------------------------ 24 to 26

    private static void flapTicksFrom1To2000() {
        Expect.part("24: in the latest n ticks that were closed (1 .. 2000)");
        AlarmTower x = tower(0);
        plain(x);
        due("n 0", x.flap(0, 0), -1);
        due("n 2001", x.flap(0, 2001), -1);
        due("n 1, none closed", x.flap(0, 1), 0);
        due("n 2000, none closed", x.flap(0, 2000), 0);
        ticks20(x, 1);
        due("n 1, one began", x.flap(0, 1), 1);
        ticks20(x, 1);
        due("n 1, it began the tick before", x.flap(0, 1), 0);
        due("n 2", x.flap(0, 2), 1);
        tell(x, 5);
        due("n 1, it ended", x.flap(0, 1), 1);
        due("n 2, it ended", x.flap(0, 2), 1);
        due("n 3, it began and ended", x.flap(0, 3), 2);
        due("n 4, more than there are", x.flap(0, 4), 2);
        due("n 2000", x.flap(0, 2000), 2);
        ticks(x, 5);
        due("n 5", x.flap(0, 5), 0);
        due("n 6", x.flap(0, 6), 1);
        due("n 7", x.flap(0, 7), 1);
        due("n 8", x.flap(0, 8), 2);
    }

    private static void flapEachCounts() {
        Expect.part("24: began or ended (each counts)");
        AlarmTower x = tower(0, 1, 2);
        plain(x);
        plain(x);
        tell(x, 20, 20, 20);
        due("three began", x.flap(0, 1), 3);
        tell(x, 5, 5, 20);
        due("two ended", x.flap(0, 1), 2);
        due("all", x.flap(0, 2), 5);
        tell(x, 20, 5, 5);
        due("one began, one ended", x.flap(0, 1), 2);
        due("of the other rule as well", x.flap(1, 3), 7);
        due("of a rule that is none", x.flap(2, 3), -1);
        due("of a rule that is none", x.flap(-1, 3), -1);
    }

    private static void leastFrom1To10() {
        Expect.part("25: as if p were other (1 .. 10) from the first tick on");
        AlarmTower x = tower(0);
        x.rule(0, 10, 0, 10110, -1);
        due("p 0", x.least(0, 0), -1);
        due("p 11", x.least(0, 11), -1);
        // runs of 1, 2, .. 10 trues, each ended by a false
        for (int run = 1; run <= 10; run++) {
            ticks20(x, run);
            tell(x, 5);
        }
        for (int p = 1; p <= 10; p++) {
            due("p " + p, x.least(0, p), 11 - p);
        }
        due("what began", x.count(4), 1);
        // the end is the rule's own: 2 falses
        AlarmTower y = tower(0);
        y.rule(0, 10, 0, 10205, -1);
        sent(y, 20, 5, 20, 5, 5, 20, 20, 5, 5);
        due("p 1, e 2", y.least(0, 1), 2);
        due("p 2, e 2", y.least(0, 2), 1);
        due("p 3, e 2", y.least(0, 3), 0);
    }

    private static void leastSinceItCame() {
        Expect.part("25: in the ticks that were closed since it came");
        AlarmTower x = tower(0);
        sent(x, 20, 5, 20, 5);
        x.rule(0, 10, 0, 10101, -1);
        due("none yet", x.least(0, 1), 0);
        x.value(0, 20);
        due("the open tick is not closed", x.least(0, 1), 0);
        x.tick();
        due("one", x.least(0, 1), 1);
        due("p 2: the ticks before do not count", x.least(0, 2), 0);
        due("no rule", x.least(1, 1), -1);
        due("no rule", x.least(-1, 1), -1);
        x.source(0);
        tell(x, 20, 20);
        due("a source that came later", x.least(0, 1), 2);
        due("a source that came later", x.least(0, 2), 1);
    }

    private static void leastRoomOrNot() {
        Expect.part("25: room or not");
        AlarmTower x = new AlarmTower();
        for (int i = 0; i < 16; i++) {
            x.source(0);
            x.rule(104, 0, 0, 10101, -1);
        }
        x.tick();
        for (int s = 0; s < 16; s++) {
            x.value(s, 1);
        }
        x.tick();
        x.tick();
        due("there are 300", x.count(4), 300);
        due("rule 15 began", x.flap(15, 2000), 32);
        due("rule 15 would have begun", x.least(15, 1), 32);
        due("rule 15 has none", x.counts(15, 0, 2), -2);
    }

    private static void leastChangesNothing() {
        Expect.part("25: nothing changes");
        AlarmTower x = tower(0);
        x.rule(0, 10, 0, 10103, -1);
        ticks20(x, 2);
        for (int p = 1; p <= 10; p++) {
            due("p " + p, x.least(0, p), p <= 2 ? 1 : 0);
        }
        due("p is 3 still", x.count(4), 0);
        ticks20(x, 1);
        due("p is 3 still", x.count(4), 1);
    }

    private static void countOfEach() {
        Expect.part("26: count of each");
        AlarmTower x = sentOne();
        int[] want = {1, 1, 3, 1, 1, 1, 1, 1, 1};
        for (int what = 0; what <= 8; what++) {
            due("count(" + what + ")", x.count(what), want[what]);
        }
        x.answer(0, 1);
        due("not answered", x.count(7), 0);
        tell(x, 5);
        due("that last", x.count(5), 0);
        due("alarms", x.count(4), 1);
        due("letters", x.count(6), 2);
        due("not answered", x.count(7), 1);
        due("groups that have any", x.count(8), 1);
        x.source(1);
        due("a site without an alarm is no group", x.count(8), 1);
        tell(x, 5, 20);
        due("groups that have any", x.count(8), 2);
    }

    private static void countThatLast() {
        Expect.part("26: 5 that last");
        AlarmTower x = tower(0, 0, 0);
        plain(x);
        tell(x, 20, 20, 20);
        due("all", x.count(5), 3);
        tell(x, 20, 5, 20);
        due("the first and the last", x.count(5), 2);
        tell(x, 20, 5, 5);
        due("the first", x.count(5), 1);
        tell(x, 5, 5, 5);
        due("none", x.count(5), 0);
        due("alarms", x.count(4), 3);
    }

    private static void countNotAnswered() {
        Expect.part("26: 7 not answered");
        AlarmTower x = tower(0, 1, 2);
        plain(x);
        x.hand();
        x.waits(0, 50, 100, 50);
        tell(x, 20, 20, 20);
        due("none is answered", x.count(7), 3);
        x.answer(1, 0);
        due("the first and the last are not", x.count(7), 2);
        x.answer(2, 0);
        due("the first is not", x.count(7), 1);
        x.answer(2, 0);
        due("the first is not, still", x.count(7), 1);
        x.answer(0, 0);
        due("all are", x.count(7), 0);
        due("letters", x.count(6), 3);
    }

    private static void countOf9() {
        Expect.part("26: -1 for others");
        AlarmTower x = sentOne();
        due("count(-1)", x.count(-1), -1);
        due("count(9)", x.count(9), -1);
        due("count(8)", x.count(8), 1);
        due("count(0)", x.count(0), 1);
    }
}
