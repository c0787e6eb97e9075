/**
 * The terms of HELD, SILENCED, GROUPS, LETTERS and THE ROW: for each sentence that names an edge a test of its own,
 * mostly the tick before it and the tick of it.
 */
public final class LetterEdgeTests extends Towers {

    private LetterEdgeTests() {
    }

    public static void main(String[] args) {
        heldByAnySource();
        heldBySameSite();
        heldBySameSource();
        heldWhileItLasts();
        heldByAHeldOne();
        silencedFirstToLastTick();
        silencedByOneOfMany();
        clearIfNeither();
        freshSinceTheLastTime();
        groupsAlike();
        groupsByFirstAlarms();
        groupOfASecondAlarm();
        firstOrLonger();
        firstZero();
        firstCountsFromTheLastTime();
        firstOfOneOfThem();
        againOrMore();
        againOne();
        againWithoutAFreshOne();
        eachOrMore();
        eachWithoutAClearOne();
        lastIsTheAnswer();
        lastIsTheLetter();
        lastOfAnOlderLetter();
        closesWhenNoneLasts();
        closesThoughSilenced();
        closedIsNotOpen();
        endsUntold();
        lettersHoldClearThenEnded();
        endedAreToldOnce();
        endedThatWereNotTold();
        lettersUpTo200();
        lettersHoldUpTo40();
        lettersHoldUpTo40Ended();
        rowByLeastStep();
        rowAsAtItsTick();
        upTicksLater();
        upAsToldThen();
        upAfterTheLastToAll();
        nobodyAwake();
        upEndsByAnAnswer();
        upBeforeTheLetters();
        answerByAHandThatItWentTo();
        answerByAnyIfToAll();
        theFirstAnswerCounts();
        Expect.end();
    }

    /** As soon as an alarm is clear, and seldom again. */
    private static AlarmTower prompt(int... sites) {
        AlarmTower x = tower(sites);
        x.waits(0, 1, 100, 50);
        return x;
    }

    // ------------------------------------------------------------------ held and silenced

    /** Which of the alarms of rule 0 for the sources 0, 1, 2 are held by that of rule 1 for source 1. */
    private static String heldBy(int like) {
        AlarmTower x = tower(4, 4, 5);
        plain(x);
        x.rule(0, 50, 0, 10101, -1);
        x.hold(0, 1, like);
        tell(x, 20, 60, 20);
        return "" + x.alarm(0, 5) + x.alarm(1, 5) + x.alarm(2, 5) + x.alarm(3, 5);
    }

    private static void heldByAnySource() {
        Expect.part("terms: held: of any SOURCE (like 0)");
        same("held by source 1 at site 4", heldBy(0), "1110");
    }

    private static void heldBySameSite() {
        Expect.part("terms: held: of one of the same SITE (1)");
        same("held by source 1 at site 4", heldBy(1), "1100");
    }

    private static void heldBySameSource() {
        Expect.part("terms: held: of the same SOURCE (2)");
        same("held by source 1 at site 4", heldBy(2), "0100");
    }

    private static void heldWhileItLasts() {
        Expect.part("terms: held, while an ALARM of a RULE that was told to hold its RULE lasts");
        AlarmTower x = tower(0);
        plain(x);
        x.rule(0, 50, 0, 10202, -1);
        x.hold(0, 1, 0);
        tell(x, 60);
        due("it is pending", x.alarm(0, 5), 0);
        tell(x, 60);
        due("it begins", x.alarm(0, 5), 1);
        tell(x, 20);
        due("it is false, and lasts", x.alarm(0, 5), 1);
        tell(x, 20);
        due("it ended", x.alarm(0, 5), 0);
        due("clear since then", x.alarm(0, 7), 4);
        tell(x, 60);
        tell(x, 60);
        due("held again", x.alarm(0, 5), 1);
        tell(x, 5);
        due("an alarm that ended is not held", x.alarm(0, 5), 0);
        due("the one that holds lasts", x.count(5), 1);
    }

    private static void heldByAHeldOne() {
        Expect.part("terms: held, while an ALARM lasts (held or silenced itself)");
        AlarmTower x = tower(0);
        plain(x);
        plain(x);
        plain(x);
        x.hand();
        x.hold(1, 0, 0);
        x.hold(2, 1, 0);
        x.silence(-1, 0, 1, 1, 0);
        tell(x, 20);
        due("silenced", x.alarm(0, 6), 1);
        due("held by a silenced one", x.alarm(1, 5), 1);
        due("held by a held one", x.alarm(2, 5), 1);
        due("not by one over another", x.whyNot(0, 0), 3);
    }

    private static void silencedFirstToLastTick() {
        Expect.part("terms: from its first tick to its last one");
        AlarmTower x = tower(0);
        plain(x);
        x.hand();
        x.silence(-1, -1, 2, 4, 0);
        x.silence(-1, -1, 6, 6, 0);
        StringBuilder out = new StringBuilder();
        for (int t = 1; t <= 7; t++) {
            tell(x, 20);
            out.append(x.alarm(0, 6));
        }
        same("silenced in the ticks 1 to 7", out.toString(), "0111010");
        tell(x, 5);
        due("an alarm that ended", x.alarm(0, 6), 0);
    }

    private static void silencedByOneOfMany() {
        Expect.part("terms: SILENCED, while a SILENCE that fits goes");
        AlarmTower x = tower(3);
        plain(x);
        x.hand();
        x.silence(4, -1, 1, 9, 0);
        x.silence(-1, 0, 2, 2, 0);
        x.silence(3, -1, 2, 3, 0);
        tell(x, 20);
        due("another site", x.alarm(0, 6), 0);
        tell(x, 20);
        due("two that fit", x.alarm(0, 6), 1);
        tell(x, 20);
        due("one that fits", x.alarm(0, 6), 1);
        tell(x, 20);
        due("none that fits", x.alarm(0, 6), 0);
        x.silence(3, 0, 5, 9, 0);
        tell(x, 20);
        due("one that lasts", x.alarm(0, 6), 1);
        tell(x, 5);
        due("one that ended while it was silenced", x.alarm(0, 6), 0);
        due("is not clear", x.alarm(0, 7), 0);
    }

    private static void clearIfNeither() {
        Expect.part("terms: CLEAR if it is neither");
        AlarmTower x = tower(0);
        plain(x);
        x.rule(0, 50, 0, 10101, -1);
        x.hand();
        x.hold(0, 1, 0);
        x.silence(-1, 0, 3, 4, 0);
        double[] values = {20, 60, 60, 20, 20, 20, 5};
        int[] since = {1, 0, 0, 0, 5, 5, 0};
        for (int t = 0; t < values.length; t++) {
            tell(x, values[t]);
            due("clear since, behind tick " + (t + 1), x.alarm(0, 7), since[t]);
        }
    }

    private static void freshSinceTheLastTime() {
        Expect.part("terms: FRESH: in no LETTER since it became CLEAR the last time");
        AlarmTower x = prompt(0);
        plain(x);
        x.hand();
        x.silence(-1, -1, 3, 3, 0);
        due("fresh", tell(x, 20), 1);
        due("not fresh: it was in a letter", tell(x, 20), 0);
        due("in a letter", x.whyNot(0, 0), 4);
        due("silenced", tell(x, 20), 0);
        due("clear again: fresh", tell(x, 20), 1);
        due("why", x.why(1), 2);
        due("its letters", x.alarm(0, 8), 2);
        due("not fresh", tell(x, 20), 0);
    }

    // ------------------------------------------------------------------ groups

    private static void groupsAlike() {
        Expect.part("terms: alike in all that the MASK tells");
        // by site and rule: source 0 and 1 at one site, 2 at another; rule 0 and 1
        AlarmTower x = prompt(3, 3, 4);
        plain(x);
        plain(x);
        x.mask(3);
        due("four groups", tell(x, 20, 20, 20), 4);
        same("rule 0 at site 3", inLetter(x, 0), "0 1");
        same("rule 0 at site 4", inLetter(x, 1), "2");
        same("rule 1 at site 3", inLetter(x, 2), "3 4");
        same("rule 1 at site 4", inLetter(x, 3), "5");
        AlarmTower y = prompt(3, 3, 4);
        plain(y);
        plain(y);
        y.mask(0);
        due("all are one group", tell(y, 20, 20, 20), 1);
        same("all of them", inLetter(y, 0), "0 1 2 3 4 5");
    }

    private static void groupsByFirstAlarms() {
        Expect.part("terms: each GROUP in the order of their first ALARMS");
        AlarmTower x = prompt(5, 2, 7);
        plain(x);
        tell(x, 5, 5, 20);
        tell(x, 5, 20, 5);
        due("the groups that stand", x.count(8), 2);
        due("one opens again, one closes, one is new", tell(x, 20, 5, 20), 3);
        same("site 7 first", inLetter(x, 3), "3");
        same("then site 2", inLetter(x, 4), "1");
        same("then site 5", inLetter(x, 5), "2");
    }

    private static void groupOfASecondAlarm() {
        Expect.part("terms: a GROUP is of all ALARMS that are alike, those that ended too");
        AlarmTower x = prompt(0, 0);
        plain(x);
        tell(x, 20);
        tell(x, 5);
        tell(x, 5, 20);
        due("one group", x.count(8), 1);
        due("its three letters", x.count(6), 3);
    }

    // ------------------------------------------------------------------ first, again, each

    private static void firstOrLonger() {
        Expect.part("terms: FRESH since t - first or longer");
        for (int first : new int[] {1, 2, 7, 50}) {
            AlarmTower x = tower(0);
            plain(x);
            x.waits(first, 1, 100, 1);
            due("before first " + first, ticks20(x, first), 0);
            due("at first " + first, ticks20(x, 1), 1);
            due("its tick", x.letter(0, 0), first + 1);
        }
    }

    private static void firstZero() {
        Expect.part("terms: it became CLEAR in that tick (first 0)");
        AlarmTower x = tower(0);
        plain(x);
        x.waits(0, 50, 100, 1);
        due("at once", ticks20(x, 1), 1);
        due("it became clear in that tick", x.alarm(0, 7), x.letter(0, 0));
    }

    private static void firstCountsFromTheLastTime() {
        Expect.part("terms: FRESH since it became CLEAR the last time");
        AlarmTower x = tower(0);
        plain(x);
        x.hand();
        x.waits(3, 1, 100, 1);
        x.silence(-1, -1, 3, 3, 0);
        due("it became clear in tick 4", ticks20(x, 6), 0);
        due("3 ticks later", ticks20(x, 1), 1);
        due("its tick", x.letter(0, 0), 7);
        // waits told later count at once
        AlarmTower y = tower(0);
        plain(y);
        y.waits(50, 1, 100, 1);
        due("not yet", ticks20(y, 10), 0);
        y.waits(10, 1, 100, 1);
        due("since 10 ticks", ticks20(y, 1), 1);
        AlarmTower z = tower(0);
        plain(z);
        z.waits(50, 1, 100, 1);
        due("not yet", ticks20(z, 10), 0);
        z.waits(3, 1, 100, 1);
        due("since 10 ticks, 3 were enough: or longer", ticks20(z, 1), 1);
    }

    private static void firstOfOneOfThem() {
        Expect.part("terms: when one of its ALARMS is FRESH since t - first or longer");
        AlarmTower x = tower(0, 0, 0);
        plain(x);
        x.waits(3, 1, 100, 1);
        due("alarm 0", tell(x, 20), 0);
        due("alarm 1", tell(x, 20, 20), 0);
        due("alarm 0 ends", tell(x, 5), 0);
        due("alarm 1 since 2 ticks", tell(x), 0);
        due("alarm 2, alarm 1 since 3 ticks", tell(x, 5, 20, 20), 1);
        same("both are in it", inLetter(x, 0), "1 2");
    }

    private static void againOrMore() {
        Expect.part("terms: one is FRESH, and t is LAST + again or more");
        for (int again : new int[] {2, 3, 50}) {
            AlarmTower x = tower(0, 0);
            plain(x);
            x.waits(0, again, 100, 1);
            due("opens", tell(x, 20), 1);
            x.value(1, 20);
            due("before again " + again, ticks20(x, again - 1), 0);
            due("at again " + again, ticks20(x, 1), 1);
            due("why", x.why(1), 2);
            due("its tick", x.letter(1, 0), 1 + again);
        }
        AlarmTower x = tower(0, 0);
        plain(x);
        x.waits(0, 3, 100, 1);
        tell(x, 20);
        due("none fresh, though again is over", ticks(x, 10), 0);
        due("fresh later than again: at once", tell(x, 20, 20), 1);
    }

    private static void againOne() {
        Expect.part("terms: again 1");
        AlarmTower x = tower(0, 0, 0);
        plain(x);
        x.waits(0, 1, 100, 1);
        due("opens", tell(x, 20), 1);
        due("in the next tick", tell(x, 20, 20), 1);
        due("in the next tick", tell(x, 20, 20, 20), 1);
        same("all that are clear", inLetter(x, 2), "0 1 2");
    }

    private static void againWithoutAFreshOne() {
        Expect.part("terms: an OPEN one does not look at first");
        AlarmTower x = tower(0, 0);
        plain(x);
        x.waits(4, 1, 100, 1);
        due("first", ticks20(x, 5), 1);
        due("again, fresh since this tick", tell(x, 20, 20), 1);
        due("why", x.why(1), 2);
    }

    private static void eachOrMore() {
        Expect.part("terms: one is CLEAR, and t is LAST + each or more");
        for (int each : new int[] {1, 2, 20, 100}) {
            AlarmTower x = tower(0);
            plain(x);
            x.waits(0, 50, each, 1);
            due("opens", ticks20(x, 1), 1);
            due("before each " + each, ticks20(x, each - 1), 0);
            due("at each " + each, ticks20(x, 1), 1);
            due("why", x.why(1), 3);
            due("its tick", x.letter(1, 0), 1 + each);
            due("before each " + each, ticks20(x, each - 1), 0);
            due("at each " + each, ticks20(x, 1), 1);
        }
    }

    private static void eachWithoutAClearOne() {
        Expect.part("terms: each: one is CLEAR");
        AlarmTower x = tower(0);
        plain(x);
        x.hand();
        x.waits(0, 50, 3, 1);
        x.silence(-1, -1, 2, 6, 0);
        due("opens", ticks20(x, 1), 1);
        due("none is clear", ticks20(x, 5), 0);
        due("clear, each is over", ticks20(x, 1), 1);
        due("it is fresh again, but again is not over", x.why(1), 3);
    }

    private static void lastIsTheAnswer() {
        Expect.part("terms: LAST: of its latest ANSWER if that is later");
        AlarmTower x = tower(0);
        plain(x);
        x.hand();
        x.waits(0, 50, 5, 50);
        due("letter in tick 1", ticks20(x, 1), 1);
        ticks20(x, 2);
        due("answer in tick 4", x.answer(0, 0), 0);
        due("before 4 + 5", ticks20(x, 5), 0);
        due("at 4 + 5", ticks20(x, 1), 1);
        due("its tick", x.letter(1, 0), 9);
        AlarmTower y = tower(0, 0);
        plain(y);
        y.hand();
        y.waits(0, 3, 100, 50);
        due("letter in tick 1", ticks20(y, 1), 1);
        due("answer in tick 2", y.answer(0, 0), 0);
        y.value(1, 20);
        due("before 2 + 3", ticks20(y, 3), 0);
        due("at 2 + 3", ticks20(y, 1), 1);
    }

    private static void lastIsTheLetter() {
        Expect.part("terms: LAST is the tick of its latest LETTER");
        AlarmTower x = tower(0);
        plain(x);
        x.hand();
        x.waits(0, 50, 5, 50);
        ticks20(x, 1);
        x.answer(0, 0);
        due("letters in the ticks 7, 12", ticks20(x, 11), 2);
        due("letter 1", x.letter(1, 0), 7);
        due("letter 2", x.letter(2, 0), 12);
        due("of another group the answer does not count", other(), 1);
    }

    private static int other() {
        AlarmTower x = tower(0, 1);
        plain(x);
        x.hand();
        x.waits(0, 50, 5, 50);
        due("two groups", tell(x, 20, 20), 2);
        ticks(x, 4);
        x.answer(1, 0);
        return x.tick();
    }

    private static void lastOfAnOlderLetter() {
        Expect.part("terms: LAST: the latest ANSWER, of an older LETTER too");
        AlarmTower x = tower(0);
        plain(x);
        x.hand();
        x.waits(0, 50, 5, 50);
        due("letters in the ticks 1, 6", ticks20(x, 8), 2);
        due("answer of the older one in tick 9", x.answer(0, 0), 0);
        due("before 9 + 5", ticks20(x, 5), 0);
        due("at 9 + 5", ticks20(x, 1), 1);
    }

    private static void closesWhenNoneLasts() {
        Expect.part("terms: or none lasts: that one closes it");
        AlarmTower x = tower(0, 0);
        plain(x);
        x.waits(0, 50, 100, 1);
        tell(x, 20, 20);
        due("one lasts", tell(x, 5, 20), 0);
        due("none lasts: at once", tell(x, 5, 5), 1);
        due("it closed its group", x.letter(1, 8), 1);
        due("why", x.why(1), 4);
        due("the first one did not", x.letter(0, 8), 0);
        due("no more", ticks(x, 200), 0);
    }

    private static void closesThoughSilenced() {
        Expect.part("terms: OPEN, none is CLEAR, one lasts: nothing");
        AlarmTower x = tower(0);
        plain(x);
        x.hand();
        x.waits(0, 1, 1, 1);
        x.silence(-1, -1, 2, 1000, 0);
        ticks20(x, 1);
        due("one lasts, silenced", ticks20(x, 20), 0);
        due("none lasts", tell(x, 5), 1);
        due("it closed its group", x.letter(1, 8), 1);
        same("it tells its end", inLetter(x, 1), "0");
    }

    private static void closedIsNotOpen() {
        Expect.part("terms: OPEN if a LETTER was sent since the latest one that closed it");
        AlarmTower x = tower(0);
        plain(x);
        x.waits(2, 50, 100, 1);
        due("opens", ticks20(x, 3), 1);
        due("closes", tell(x, 5), 1);
        due("begins again", ticks20(x, 2), 0);
        due("first again, not LAST + again", ticks20(x, 1), 1);
        due("why", x.why(2), 1);
        due("its tick", x.letter(2, 0), 7);
        due("closes", tell(x, 5), 1);
        due("why", x.why(3), 4);
        due("not twice", tell(x, 5), 0);
    }

    private static void endsUntold() {
        Expect.part("terms: not OPEN, none FRESH: nothing");
        AlarmTower x = tower(0);
        plain(x);
        x.waits(2, 1, 1, 1);
        due("two ticks", ticks20(x, 2), 0);
        due("it ended before first", tell(x, 5), 0);
        due("and is told never", ticks(x, 100), 0);
        due("its letters", x.alarm(0, 8), 0);
    }

    // ------------------------------------------------------------------ what is in a letter

    private static void lettersHoldClearThenEnded() {
        Expect.part("terms: in a LETTER: CLEAR by numbers, then those that ended by numbers");
        AlarmTower x = prompt(0, 0, 0, 0, 0, 0);
        plain(x);
        x.hand();
        tell(x, 20, 20, 20, 20);
        tell(x, 5, 20, 5, 20, 20, 20);
        same("clear, then ended", inLetter(x, 1), "1 3 4 5 0 2");
        due("the first", x.letter(1, 1), 1);
        due("how many", x.letter(1, 2), 6);
        // those that are silenced or held are not in it
        AlarmTower y = prompt(0, 0);
        plain(y);
        y.rule(0, 50, 0, 10101, -1);
        y.hold(0, 1, 2);
        due("sent", tell(y, 20, 60), 1);
        same("alarm 1 is held", inLetter(y, 0), "0 2");
    }

    private static void endedAreToldOnce() {
        Expect.part("terms: those that ended, and in no LETTER since they ended");
        AlarmTower x = prompt(0, 0, 0);
        plain(x);
        tell(x, 20);
        tell(x, 5, 20);
        same("its end", inLetter(x, 1), "1 0");
        tell(x, 5, 20, 20);
        same("not again", inLetter(x, 2), "1 2");
        due("its letters", x.alarm(0, 8), 2);
        due("no letter: the end alone sends none", tell(x, 5, 5, 20), 0);
        due("the letter that closes", tell(x, 5, 5, 5), 1);
        same("both ends", inLetter(x, 3), "1 2");
    }

    private static void endedThatWereNotTold() {
        Expect.part("terms: those that ended, were in a LETTER while they lasted");
        AlarmTower x = prompt(0, 0, 0);
        plain(x);
        x.hand();
        x.silence(-1, -1, 2, 3, 0);
        due("alarm 0", tell(x, 20), 1);
        due("alarm 1 is silenced", tell(x, 20, 20), 0);
        due("alarm 1 ended", tell(x, 20, 5), 0);
        due("alarm 0 is clear again", tell(x, 20), 1);
        same("alarm 1 is not in it", inLetter(x, 1), "0");
        due("none lasts", tell(x, 5), 1);
        same("alarm 1 is not in it", inLetter(x, 2), "0");
        due("its letters", x.alarm(1, 8), 0);
    }

    private static void lettersUpTo200() {
        Expect.part("terms: at most 200 LETTERS are sent in all (then none any more)");
        AlarmTower x = new AlarmTower();
        for (int s = 0; s < 9; s++) {
            x.source(s);
        }
        x.rule(104, 0, 0, 10101, -1);
        x.waits(0, 1, 1, 1);
        for (int t = 1; t <= 22; t++) {
            due("nine letters in tick " + t, x.tick(), 9);
        }
        due("two more", x.tick(), 2);
        due("count(6)", x.count(6), 200);
        due("the last one is of the second group", x.letter(199, 1), 1);
        due("it is the one before 199", x.letter(198, 1), 0);
        due("letter 200", x.letter(200, 0), -1);
        due("none any more", x.tick(), 0);
        due("count(6)", x.count(6), 200);
        due("letters of alarm 0", x.alarm(0, 8), 23);
        due("letters of alarm 2", x.alarm(2, 8), 22);
        x.value(0, 1);
        due("none that closes", x.tick(), 0);
    }

    private static AlarmTower many(int rules) {
        AlarmTower x = new AlarmTower();
        for (int s = 0; s < 16; s++) {
            x.source(0);
        }
        for (int r = 0; r < rules; r++) {
            x.rule(104, 0, 0, 10101, -1);
        }
        x.waits(0, 1, 100, 1);
        return x;
    }

    private static void lettersHoldUpTo40() {
        Expect.part("terms: at most 40 ALARMS are in one (the first ones)");
        AlarmTower x = many(3);
        due("sent", x.tick(), 1);
        due("40 of 48", x.letter(0, 2), 40);
        due("the first", x.holds(0, 0), 0);
        due("the last", x.holds(0, 39), 39);
        due("holds(0, 40)", x.holds(0, 40), -1);
        due("alarm 39 is in a letter", x.whyNot(2, 7), 4);
        due("alarm 40 waits", x.whyNot(2, 8), 5);
        due("alarm 40 is in none", x.alarm(40, 8), 0);
        due("one is fresh still: again", x.tick(), 1);
        due("the first 40 again", x.holds(1, 39), 39);
        due("alarm 40 is in none", x.alarm(40, 8), 0);
    }

    private static void lettersHoldUpTo40Ended() {
        Expect.part("terms: at most 40 ALARMS are in one (the first ones), and then those that ended");
        AlarmTower x = many(3);
        x.tick();
        for (int s = 0; s < 12; s++) {
            x.value(s, 1);
        }
        due("36 ended, 12 last", x.tick(), 1);
        due("12 and 28 of 36 (of which 32 were told)", x.letter(1, 2), 40);
        due("the first that lasts", x.holds(1, 0), 12);
        due("the last that lasts", x.holds(1, 11), 47);
        due("the first that ended", x.holds(1, 12), 0);
        due("the last that ended", x.holds(1, 39), 35);
        for (int s = 0; s < 16; s++) {
            x.value(s, 1);
        }
        due("the others end", x.tick(), 1);
        // 36 .. 39 were told lasting and not since they ended; 12 .. 15, 28 .. 31, 44 .. 47 ended now
        same("those that were left", inLetter(x, 2), "12 13 14 15 28 29 30 31 36 37 38 39 44 45 46 47");
    }

    // ------------------------------------------------------------------ the row

    private static void rowByLeastStep() {
        Expect.part("terms: by their least STEP then, of one STEP by numbers");
        AlarmTower x = new AlarmTower();
        for (int h = 0; h < 5; h++) {
            x.hand();
        }
        x.shift(4, 0, 48, 3);
        x.shift(2, 0, 48, 3);
        x.shift(3, 0, 48, 3);
        x.shift(0, 0, 48, 9);
        x.shift(0, 10, 5, 3);
        x.shift(0, 12, 1, 0);
        same("tick 1", awakeAt(x, 1), "2340");
        same("tick 9", awakeAt(x, 9), "2340");
        same("the least of two", awakeAt(x, 10), "0234");
        same("the least of three", awakeAt(x, 12), "0234");
        same("tick 14", awakeAt(x, 14), "0234");
        same("tick 15", awakeAt(x, 15), "2340");
        x.shift(1, 12, 1, 1);
        same("step 0 goes first, then 1", awakeAt(x, 12), "01234");
        x.shift(4, 12, 1, 0);
        same("of step 0 by numbers", awakeAt(x, 12), "04123");
    }

    private static void rowAsAtItsTick() {
        Expect.part("terms: THE ROW of a LETTER sent at t: all that are AWAKE then");
        AlarmTower x = prompt(0);
        plain(x);
        x.hand();
        x.hand();
        x.waits(0, 50, 100, 1);
        x.shift(0, 2, 1, 0);
        x.shift(1, 3, 10, 0);
        x.tick();
        ticks20(x, 1);
        due("hand 0 alone", x.letter(0, 7), 1);
        due("it went to hand 0", x.letter(0, 3), 0);
        ticks20(x, 1);
        due("hand 1 is awake, but not in the row", x.letter(0, 3), -2);
        due("one that is not awake any more is in it", x.letter(0, 7), 1);
    }

    private static void upTicksLater() {
        Expect.part("terms: UP ticks later to the next one, and so on");
        for (int up : new int[] {1, 2, 3, 50}) {
            AlarmTower x = rowOf3(up);
            int[] hands = {0, 1, 2};
            for (int place = 0; place < 3; place++) {
                due("it went to, up " + up, x.letter(0, 3), hands[place]);
                due("it went at, up " + up, x.letter(0, 4), 1 + place * up);
                ticks(x, up - 1);
                due("one tick before up " + up, x.letter(0, 3), hands[place]);
                x.tick();
            }
            due("to all, up " + up, x.letter(0, 3), -2);
            due("to all at, up " + up, x.letter(0, 4), 1 + 3 * up);
        }
    }

    /** A letter of tick 1 to the hands 0, 1, 2, one after the other. */
    private static AlarmTower rowOf3(int up) {
        AlarmTower x = tower(0);
        plain(x);
        x.waits(0, 50, 100, up);
        for (int h = 0; h < 4; h++) {
            x.hand();
        }
        for (int h = 0; h < 3; h++) {
            x.shift(h, 0, 48, h);
        }
        due("sent", tell(x, 20), 1);
        return x;
    }

    private static void upAsToldThen() {
        Expect.part("7: UP as told by waits()");
        AlarmTower x = rowOf3(50);
        ticks(x, 9);
        x.waits(0, 50, 100, 4);
        due("behind tick 10", x.letter(0, 3), 0);
        x.tick();
        due("UP is over long since: to the next one, not farther", x.letter(0, 3), 1);
        due("at", x.letter(0, 4), 11);
        ticks(x, 3);
        due("before 11 + 4", x.letter(0, 3), 1);
        x.tick();
        due("at 11 + 4", x.letter(0, 3), 2);
        x.waits(0, 50, 100, 7);
        ticks(x, 6);
        due("before 15 + 7", x.letter(0, 3), 2);
        x.tick();
        due("at 15 + 7", x.letter(0, 3), -2);
    }

    private static void upAfterTheLastToAll() {
        Expect.part("terms: UP ticks behind the last one to ALL");
        AlarmTower x = rowOf3(2);
        ticks(x, 5);
        due("to the last one", x.letter(0, 3), 2);
        due("noise of one that isn't in the row", x.noise(3), 0);
        x.tick();
        due("to all", x.letter(0, 3), -2);
        due("at", x.letter(0, 4), 7);
        due("noise of one that isn't in the row", x.noise(3), 1);
        ticks(x, 10);
        due("at, later", x.letter(0, 4), 7);
        due("to all it stays", x.letter(0, 3), -2);
    }

    private static void nobodyAwake() {
        Expect.part("terms: with nobody AWAKE to ALL at once");
        AlarmTower x = tower(0);
        plain(x);
        x.waits(0, 50, 100, 1);
        x.hand();
        x.shift(0, 2, 47, 0);
        due("sent at place 1", tell(x, 20), 1);
        due("to all", x.letter(0, 3), -2);
        due("at", x.letter(0, 4), 1);
        due("its row", x.letter(0, 7), 0);
        due("noise", x.noise(0), 1);
        x.tick();
        due("at, later", x.letter(0, 4), 1);
        // without any hand, too
        AlarmTower y = tower(0);
        plain(y);
        y.waits(0, 50, 100, 1);
        tell(y, 20);
        due("to all", y.letter(0, 3), -2);
        due("its row", y.letter(0, 7), 0);
    }

    private static void upEndsByAnAnswer() {
        Expect.part("terms: if it isn't answered; an ANSWER ends that");
        AlarmTower x = rowOf3(2);
        x.tick();
        due("the last moment", x.answer(0, 0), 0);
        ticks(x, 20);
        due("it stays with", x.letter(0, 3), 0);
        due("since", x.letter(0, 4), 1);
        due("noise of the next one", x.noise(1), 0);
        AlarmTower y = rowOf3(2);
        ticks(y, 2);
        due("too late for that", y.letter(0, 3), 1);
        due("the first one answers", y.answer(0, 0), 0);
        ticks(y, 20);
        due("it stays with", y.letter(0, 3), 1);
    }

    private static void upBeforeTheLetters() {
        Expect.part("terms: all that goes up goes ahead of the LETTERS that are sent then");
        // with up 1 a letter goes up in the next tick, not in its own
        AlarmTower x = tower(0);
        plain(x);
        x.waits(0, 1, 1, 1);
        x.hand();
        x.hand();
        x.shift(0, 0, 48, 0);
        x.shift(1, 0, 48, 1);
        ticks20(x, 1);
        due("letter 0 with hand 0", x.letter(0, 3), 0);
        ticks20(x, 1);
        due("letter 0 went up", x.letter(0, 3), 1);
        due("letter 1 with hand 0", x.letter(1, 3), 0);
        ticks20(x, 1);
        due("letter 0 to all", x.letter(0, 3), -2);
        due("letter 1 went up", x.letter(1, 3), 1);
        due("letter 2 with hand 0", x.letter(2, 3), 0);
    }

    // ------------------------------------------------------------------ answers

    private static void answerByAHandThatItWentTo() {
        Expect.part("22: -2: it didn't go to it");
        for (int hand = 0; hand <= 3; hand++) {
            for (int place = 0; place <= 2; place++) {
                AlarmTower x = rowOf3(1);
                ticks(x, place);
                due("hand " + hand + " while it is with " + place, x.answer(0, hand), hand <= place ? 0 : -2);
                due("who", x.letter(0, 5), hand <= place ? hand : -2);
                due("when", x.letter(0, 6), hand <= place ? place + 2 : 0);
            }
        }
    }

    private static void answerByAnyIfToAll() {
        Expect.part("22: any, if it went to ALL");
        for (int hand = 0; hand <= 3; hand++) {
            AlarmTower x = rowOf3(1);
            ticks(x, 3);
            due("hand " + hand, x.answer(0, hand), 0);
            due("who", x.letter(0, 5), hand);
            due("when", x.letter(0, 6), 5);
            due("it stays with all", x.letter(0, 3), -2);
        }
    }

    private static void theFirstAnswerCounts() {
        Expect.part("22: -3: it is answered; the first one counts");
        AlarmTower x = rowOf3(1);
        ticks(x, 1);
        due("answer", x.answer(0, 1), 0);
        due("the same hand", x.answer(0, 1), -3);
        due("another", x.answer(0, 0), -3);
        due("one that it didn't go to", x.answer(0, 2), -2);
        due("one that is none", x.answer(0, 4), -1);
        x.tick();
        due("later", x.answer(0, 0), -3);
        due("who", x.letter(0, 5), 1);
        due("when", x.letter(0, 6), 3);
        due("count(7)", x.count(7), 0);
    }
}
