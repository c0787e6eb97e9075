/**
 * Promises 27 to 32: for each sentence that names an edge a test of its own. What is refused stands in RefusalTests as
 * well.
 */
public final class BoardEdgeTests extends Towers {

    private BoardEdgeTests() {
    }

    public static void main(String[] args) {
        boardsFrom0To7();
        keepNothing();
        keepAnAlarm();
        keepAnyNote();
        keepNoClosedTick();
        keepTheLatest60();
        keepZeroWhereSilent();
        keepAsItWas();
        keepOverAnother();
        makeUpTo60();
        makeOfNone();
        makeOfZeros();
        makeSizeBelow0();
        elementsFrom0();
        elementOfNoRow();
        elementOfNoBoard();
        copyNone();
        copyUpToTheEnds();
        copyBeyondTheEnds();
        copyFarBeyond();
        copyOntoItself();
        copyOfBooleans();
        copyOfOneKind();
        copyFirstRefusal();
        weightOfEachKind();
        weightOfOthers();
        tossOfEachKind();
        tossOfOthers();
        Expect.end();
    }

    private static void row(AlarmTower x, int d, long... want) {
        for (int i = 0; i < want.length; i++) {
            due("element(" + d + ", " + i + ") throws", state(x, d, i), 0);
            due("element(" + d + ", " + i + ")", x.element(d, i), want[i]);
        }
        due("a place behind the last of " + d, state(x, d, want.length), 2);
    }

    /** Board 0 nothing, 1 an alarm of kind 0, 2 a note, 3 the longs 11 12 13 14 15, 4 booleans, all true. */
    private static AlarmTower boards() {
        AlarmTower x = tower(0);
        plain(x);
        sent(x, 11, 12, 13, 14, 15);
        x.keep(1, 1, 0);
        x.keep(2, 2, 3);
        x.keep(3, 3, 0);
        x.keep(4, 4, 0);
        return x;
    }

    // ------------------------------------------------------------------ 27

    private static void boardsFrom0To7() {
        Expect.part("27: BOARDS 0 .. 7 each hold nothing (at first)");
        AlarmTower x = new AlarmTower();
        for (int d = 0; d <= 7; d++) {
            due("weight(" + d + ") at first", x.weight(d), -11);
            due("keep(" + d + ")", x.keep(d, 2, d), 0);
            due("weight(" + d + ")", x.weight(d), -12);
        }
        due("keep(-1)", x.keep(-1, 2, 0), -1);
        due("keep(8)", x.keep(8, 2, 0), -1);
        due("make(-1)", x.make(-1, 3, 0), -1);
        due("make(8)", x.make(8, 3, 0), -1);
        due("make(7)", x.make(7, 3, 1), 0);
        due("element(7, 0)", state(x, 7, 0), 0);
        due("element(6, 0)", state(x, 6, 0), 2);
    }

    private static void keepNothing() {
        Expect.part("27: what = 0 nothing (the others do not matter)");
        for (int k : new int[] {0, -1, 300, MIN, MAX}) {
            AlarmTower x = boards();
            for (int d = 0; d <= 4; d++) {
                due("keep(" + d + ", 0, " + k + ")", x.keep(d, 0, k), 0);
                due("weight(" + d + ")", x.weight(d), -11);
                due("element(" + d + ", 0)", state(x, d, 0), 2);
            }
            due("keep(8, 0, 0)", x.keep(8, 0, k), -1);
        }
    }

    private static void keepAnAlarm() {
        Expect.part("27: 1 ALARM k");
        AlarmTower x = tower(0, 1);
        plain(x);
        due("none began", x.keep(0, 1, 0), -1);
        tell(x, 20, 20);
        due("alarm -1", x.keep(0, 1, -1), -1);
        due("alarm 2", x.keep(0, 1, 2), -1);
        due("nothing is held still", x.weight(0), -11);
        due("alarm 1", x.keep(0, 1, 1), 0);
        due("its weight", x.weight(0), 10);
        due("alarm 2", x.keep(0, 1, 2), -1);
        due("the board keeps what it had", x.weight(0), 10);
        tell(x, 5, 5);
        due("it ended", x.weight(0), 10);
        due("one that ended", x.keep(1, 1, 0), 0);
    }

    private static void keepAnyNote() {
        Expect.part("27: 2 a NOTE k (any number)");
        for (int k : new int[] {0, -1, 300, MIN, MAX}) {
            AlarmTower x = new AlarmTower();
            due("keep(0, 2, " + k + ")", x.keep(0, 2, k), 0);
            due("weight(0)", x.weight(0), -12);
            due("toss(0)", x.toss(0), -12);
            due("element(0, 0)", state(x, 0, 0), 2);
        }
    }

    private static void keepNoClosedTick() {
        Expect.part("27: a ROW of no tick");
        AlarmTower x = tower(0);
        x.value(0, 5);
        due("longs", x.keep(0, 3, 0), 0);
        due("booleans", x.keep(1, 4, 0), 0);
        row(x, 0);
        row(x, 1);
        due("it is a row", x.copy(0, 0, 0, 0, 0), 0);
        due("no source", x.keep(0, 3, 1), -1);
        due("no source", x.keep(0, 4, -1), -1);
    }

    private static void keepTheLatest60() {
        Expect.part("27: the latest at most 60 that were closed");
        AlarmTower x = tower(0);
        for (int t = 1; t <= 59; t++) {
            tell(x, t);
        }
        x.keep(0, 3, 0);
        due("59: place 58", x.element(0, 58), 59);
        due("59: place 59", state(x, 0, 59), 2);
        tell(x, 60);
        x.keep(0, 3, 0);
        due("60: place 0", x.element(0, 0), 1);
        due("60: place 59", x.element(0, 59), 60);
        due("60: place 60", state(x, 0, 60), 2);
        tell(x, 61);
        x.keep(0, 3, 0);
        x.keep(1, 4, 0);
        due("61: place 0", x.element(0, 0), 2);
        due("61: place 59", x.element(0, 59), 61);
        due("61: place 60", state(x, 0, 60), 2);
        due("61: place 59", x.element(1, 59), 1);
        due("61: place 60", state(x, 1, 60), 2);
        ticks(x, 59);
        x.keep(0, 3, 0);
        x.keep(1, 4, 0);
        due("120: place 0", x.element(0, 0), 61);
        due("120: place 1", x.element(0, 1), 0);
        due("120: place 0", x.element(1, 0), 1);
        due("120: place 1", x.element(1, 1), 0);
    }

    private static void keepZeroWhereSilent() {
        Expect.part("27: 0 where it was SILENT; whether it had one there");
        AlarmTower x = tower(0);
        sent(x, 5, SILENT, 0, -7, 0.5);
        x.value(0, 3);
        x.tear(0);
        x.tick();
        x.source(0);
        x.value(0, 99);
        x.keep(0, 3, 0);
        x.keep(1, 4, 0);
        x.keep(2, 3, 1);
        x.keep(3, 4, 1);
        row(x, 0, 5, 0, 0, -7, 0, 0);
        row(x, 1, 1, 0, 1, 1, 1, 0);
        row(x, 2, 0, 0, 0, 0, 0, 0);
        row(x, 3, 0, 0, 0, 0, 0, 0);
    }

    private static void keepAsItWas() {
        Expect.part("27: a BOARD keeps what it got");
        AlarmTower x = boards();
        sent(x, 16, 17);
        row(x, 3, 11, 12, 13, 14, 15);
        row(x, 4, 1, 1, 1, 1, 1);
        x.keep(5, 3, 0);
        row(x, 5, 11, 12, 13, 14, 15, 16, 17);
        x.make(6, 3, 1);
        x.copy(6, 0, 5, 0, 1);
        row(x, 5, 0, 12, 13, 14, 15, 16, 17);
        row(x, 3, 11, 12, 13, 14, 15);
        x.keep(5, 3, 0);
        row(x, 5, 11, 12, 13, 14, 15, 16, 17);
    }

    private static void keepOverAnother() {
        Expect.part("27: each over each");
        for (int first = 0; first <= 4; first++) {
            for (int then = 0; then <= 4; then++) {
                AlarmTower x = boards();
                due("first " + first, x.keep(7, first, 0), 0);
                due("then " + then, x.keep(7, then, 0), 0);
                due("weight behind " + first + ", " + then, x.weight(7), then == 0 ? -11 : then == 1 ? 10 : -12);
                due("toss behind " + first + ", " + then, x.toss(7), then == 0 ? -11 : then == 1 ? -15 : -12);
                due("element behind " + first + ", " + then, state(x, 7, 4), then >= 3 ? 0 : 2);
                due("copy behind " + first + ", " + then, x.copy(7, 0, 7, 0, 5), then == 0 ? -11 : then >= 3 ? 5 : -12);
            }
        }
    }

    // ------------------------------------------------------------------ 28, 29

    private static void makeUpTo60() {
        Expect.part("28: n up to 60");
        for (int what = 3; what <= 4; what++) {
            AlarmTower x = new AlarmTower();
            due("n 61", x.make(0, what, 61), -1);
            due("n far", x.make(0, what, MAX), -1);
            due("nothing is held still", x.weight(0), -11);
            due("n 60", x.make(0, what, 60), 0);
            for (int i = 0; i < 60; i++) {
                due("element " + i, x.element(0, i), 0);
            }
            due("element 60", state(x, 0, 60), 2);
        }
        for (int what : new int[] {0, 1, 2, 5, -1}) {
            due("what " + what, new AlarmTower().make(0, what, 1), -1);
        }
    }

    private static void makeOfNone() {
        Expect.part("28: a ROW of 0");
        AlarmTower x = new AlarmTower();
        due("longs", x.make(0, 3, 0), 0);
        due("booleans", x.make(1, 4, 0), 0);
        row(x, 0);
        row(x, 1);
        due("it is a row of longs", x.copy(0, 0, 0, 0, 0), 0);
        due("it is a row of booleans", x.copy(1, 0, 1, 0, 0), 0);
        due("they are not of one kind", x.copy(0, 0, 1, 0, 0), -12);
        due("weight", x.weight(0), -12);
    }

    private static void makeOfZeros() {
        Expect.part("28: longs 0, or booleans false");
        AlarmTower x = boards();
        due("longs over longs", x.make(3, 3, 6), 0);
        row(x, 3, 0, 0, 0, 0, 0, 0);
        due("booleans over booleans", x.make(4, 4, 5), 0);
        row(x, 4, 0, 0, 0, 0, 0);
        x.keep(3, 3, 0);
        due("booleans over longs", x.make(3, 4, 2), 0);
        row(x, 3, 0, 0);
        due("an alarm", x.make(1, 3, 1), 0);
        row(x, 1, 0);
        due("a note", x.make(2, 4, 1), 0);
        row(x, 2, 0);
        due("nothing", x.make(0, 4, 1), 0);
        row(x, 0, 0);
    }

    private static void makeSizeBelow0() {
        Expect.part("28: -14: n is below 0");
        AlarmTower x = boards();
        due("n -1", x.make(3, 3, -1), -14);
        due("n -1", x.make(0, 4, -1), -14);
        due("n far", x.make(3, 4, MIN), -14);
        row(x, 3, 11, 12, 13, 14, 15);
        due("no board, n -1", x.make(8, 3, -1), -1);
        due("no such what, n -1", x.make(3, 2, -1), -1);
        due("no such what, n -1", x.make(3, 5, -1), -1);
    }

    private static void elementsFrom0() {
        Expect.part("29: element i, from 0 (booleans 1, 0)");
        AlarmTower x = tower(0);
        sent(x, 1000000000000.0, SILENT, -1000000000000.0);
        x.keep(3, 3, 0);
        x.keep(4, 4, 0);
        row(x, 3, 1000000000000L, 0, -1000000000000L);
        row(x, 4, 1, 0, 1);
        for (int i : new int[] {-1, 3, 60, MIN, MAX}) {
            due("place " + i, state(x, 3, i), 2);
            due("place " + i, state(x, 4, i), 2);
        }
    }

    private static void elementOfNoRow() {
        Expect.part("29: IllegalStateException: nothing is held, it is no ROW");
        AlarmTower x = boards();
        for (int d : new int[] {0, 1, 2, 7}) {
            due("board " + d, state(x, d, 0), 2);
            due("board " + d, state(x, d, -1), 2);
        }
    }

    private static void elementOfNoBoard() {
        Expect.part("29: IllegalArgumentException: no such BOARD");
        AlarmTower x = boards();
        for (int d : new int[] {-1, 8, MIN, MAX}) {
            due("board " + d, state(x, d, 0), 1);
            due("board " + d + ", no such place either", state(x, d, -1), 1);
        }
    }

    // ------------------------------------------------------------------ 30

    private static AlarmTower rows() {
        AlarmTower x = boards();
        x.make(5, 3, 4);
        x.make(6, 4, 4);
        return x;
    }

    private static void copyNone() {
        Expect.part("30: n elements, of 0");
        AlarmTower x = rows();
        due("from the first place", x.copy(3, 0, 5, 0, 0), 0);
        due("from behind the last", x.copy(3, 5, 5, 4, 0), 0);
        due("from farther", x.copy(3, 6, 5, 0, 0), -13);
        due("to farther", x.copy(3, 0, 5, 5, 0), -13);
        row(x, 5, 0, 0, 0, 0);
    }

    private static void copyUpToTheEnds() {
        Expect.part("30: up to either's end");
        AlarmTower x = rows();
        due("the last four of 5, all of 4", x.copy(3, 1, 5, 0, 4), 4);
        row(x, 5, 12, 13, 14, 15);
        due("the first to the last", x.copy(3, 0, 5, 3, 1), 1);
        row(x, 5, 12, 13, 14, 11);
        due("the last to the first", x.copy(3, 4, 5, 0, 1), 1);
        row(x, 5, 15, 13, 14, 11);
        due("the other way", x.copy(5, 0, 3, 1, 4), 4);
        row(x, 3, 11, 15, 13, 14, 11);
    }

    private static void copyBeyondTheEnds() {
        Expect.part("30: -13: n, i or j is below 0, or beyond either's end");
        AlarmTower x = rows();
        due("n -1", x.copy(3, 1, 5, 1, -1), -13);
        due("i -1", x.copy(3, -1, 5, 1, 1), -13);
        due("j -1", x.copy(3, 1, 5, -1, 1), -13);
        due("beyond the first's end by 1", x.copy(3, 2, 5, 0, 4), -13);
        due("beyond the second's end by 1", x.copy(3, 0, 5, 1, 4), -13);
        due("more than the second has", x.copy(3, 0, 5, 0, 5), -13);
        due("i is the end, n 1", x.copy(3, 5, 5, 0, 1), -13);
        due("j is the end, n 1", x.copy(3, 0, 5, 4, 1), -13);
        row(x, 5, 0, 0, 0, 0);
        row(x, 3, 11, 12, 13, 14, 15);
        // nor beyond it where a longer row was before
        x.make(7, 3, 60);
        x.make(7, 3, 2);
        due("the row that was there", x.copy(3, 0, 7, 1, 2), -13);
        due("the row that is there", x.copy(3, 0, 7, 0, 2), 2);
        row(x, 7, 11, 12);
    }

    private static void copyFarBeyond() {
        Expect.part("30: -13, where i + n goes round");
        AlarmTower x = rows();
        int[][] far = {{MAX, 0, 1}, {0, MAX, 1}, {1, 0, MAX}, {0, 1, MAX}, {MAX, MAX, MAX}, {MAX, 0, MAX}, {MIN, 0, 1},
            {0, MIN, 1}, {0, 0, MIN}, {MIN, MIN, MIN}, {MIN, 0, MIN}, {MIN, 0, MAX}, {MAX, 0, MIN}, {2, 2, MAX - 1}};
        for (int[] f : far) {
            due("copy(3, " + f[0] + ", 5, " + f[1] + ", " + f[2] + ")", x.copy(3, f[0], 5, f[1], f[2]), -13);
        }
        row(x, 5, 0, 0, 0, 0);
    }

    private static void copyOntoItself() {
        Expect.part("30: as they all were before");
        AlarmTower x = boards();
        due("up by 1", x.copy(3, 0, 3, 1, 4), 4);
        row(x, 3, 11, 11, 12, 13, 14);
        x = boards();
        due("down by 1", x.copy(3, 1, 3, 0, 4), 4);
        row(x, 3, 12, 13, 14, 15, 15);
        x = boards();
        due("up by 2", x.copy(3, 0, 3, 2, 3), 3);
        row(x, 3, 11, 12, 11, 12, 13);
        x = boards();
        due("to its own place", x.copy(3, 0, 3, 0, 5), 5);
        row(x, 3, 11, 12, 13, 14, 15);
    }

    private static void copyOfBooleans() {
        Expect.part("30: ROWS of booleans, too");
        AlarmTower x = rows();
        due("two", x.copy(4, 0, 6, 1, 2), 2);
        row(x, 6, 0, 1, 1, 0);
        due("up by 1, onto itself", x.copy(6, 0, 6, 1, 3), 3);
        row(x, 6, 0, 0, 1, 1);
        due("back", x.copy(6, 0, 4, 0, 4), 4);
        row(x, 4, 0, 0, 1, 1, 1);
    }

    private static void copyOfOneKind() {
        Expect.part("30: -12: one is no ROW, or they are not of one kind");
        AlarmTower x = rows();
        for (int other : new int[] {1, 2}) {
            for (int row : new int[] {3, 4}) {
                due("from " + other, x.copy(other, 0, row, 0, 1), -12);
                due("to " + other, x.copy(row, 0, other, 0, 1), -12);
            }
            due("from " + other + " to itself", x.copy(other, 0, other, 0, 0), -12);
        }
        due("longs to booleans", x.copy(3, 0, 6, 0, 1), -12);
        due("booleans to longs", x.copy(4, 0, 5, 0, 1), -12);
        due("none of them", x.copy(4, 0, 5, 0, 0), -12);
    }

    private static void copyFirstRefusal() {
        Expect.part("30: of several refusals the first one: -1, -11, -12, -13");
        AlarmTower x = rows();
        due("no board, nothing", x.copy(8, 0, 0, 0, -1), -1);
        due("nothing, no board", x.copy(0, 0, 8, 0, -1), -1);
        due("no board, a note", x.copy(-1, 0, 2, 0, -1), -1);
        due("a note, no board", x.copy(2, 0, -1, 0, -1), -1);
        due("longs beyond, no board", x.copy(3, 9, -1, 0, 1), -1);
        due("nothing, a note", x.copy(0, 0, 2, 0, -1), -11);
        due("a note, nothing", x.copy(2, 0, 0, 0, -1), -11);
        due("longs beyond, nothing", x.copy(3, 9, 0, 0, 1), -11);
        due("nothing, longs beyond", x.copy(0, 0, 3, 9, 1), -11);
        due("a note, longs beyond", x.copy(2, 0, 3, 9, 1), -12);
        due("longs beyond, an alarm", x.copy(3, 9, 1, 0, 1), -12);
        due("longs beyond, booleans", x.copy(3, 9, 4, 0, 1), -12);
        due("longs, booleans, n -1", x.copy(3, 0, 4, 0, -1), -12);
    }

    // ------------------------------------------------------------------ 31, 32

    /** Alarm k is of rule k, kind k and the grade told. */
    private static AlarmTower kinds(int grade) {
        AlarmTower x = tower(0);
        int how = 10000 * grade + 101;
        x.rule(0, 10, 0, how, -1);
        x.rule(1, 10, 0, how, -1);
        x.rule(102, 10, 0, how, -1);
        x.rule(103, 10, 50, how, -1);
        x.rule(104, 10, 0, how, -1);
        x.rule(305, 10, 0, how, -1);
        x.rule(6, 5, 5, how, -1);
        sent(x, 0, 0, 0, 50);
        x.tick();
        return x;
    }

    /** The number of the alarm of a rule. */
    private static int alarmOf(AlarmTower x, int rule) {
        for (int a = 0; a < x.count(4); a++) {
            if (x.alarm(a, 0) == rule) {
                return a;
            }
        }
        return -1;
    }

    private static void weightOfEachKind() {
        Expect.part("31: 10 times its GRADE, and its RULE's KIND; of 1 to 6 also 100; of 3 and 5 1000 more");
        int[] want = {0, 101, 102, 1103, 104, 1105, 106};
        for (int grade = 1; grade <= 5; grade++) {
            AlarmTower x = kinds(grade);
            due("alarms", x.count(4), 7);
            for (int kind = 0; kind <= 6; kind++) {
                due("keep", x.keep(kind, 1, alarmOf(x, kind)), 0);
                due("weight of kind " + kind + ", grade " + grade, x.weight(kind), want[kind] + 10 * grade);
            }
        }
    }

    private static void weightOfOthers() {
        Expect.part("31: -1, -11, -12");
        AlarmTower x = boards();
        int[] want = {-11, 10, -12, -12, -12, -11, -11, -11};
        for (int d = 0; d <= 7; d++) {
            due("weight(" + d + ")", x.weight(d), want[d]);
        }
        due("weight(-1)", x.weight(-1), -1);
        due("weight(8)", x.weight(8), -1);
    }

    private static void tossOfEachKind() {
        Expect.part("32: its RULE; -15: one of KIND 0 has none");
        AlarmTower x = kinds(3);
        for (int kind = 0; kind <= 6; kind++) {
            x.keep(0, 1, alarmOf(x, kind));
            due("toss of kind " + kind, x.toss(0), kind == 0 ? -15 : kind);
            due("toss again", x.toss(0), kind == 0 ? -15 : kind);
        }
        // rule 0 of kind 1, rule 1 of kind 0
        AlarmTower y = tower(0);
        y.rule(1, 10, 0, 10101, -1);
        plain(y);
        tell(y, 20);
        y.keep(0, 1, 0);
        y.keep(1, 1, 1);
        due("rule 0", y.toss(0), 0);
        due("rule 1, of kind 0", y.toss(1), -15);
    }

    private static void tossOfOthers() {
        Expect.part("32: -1, -11, -12");
        AlarmTower x = boards();
        int[] want = {-11, -15, -12, -12, -12, -11, -11, -11};
        for (int d = 0; d <= 7; d++) {
            due("toss(" + d + ")", x.toss(d), want[d]);
        }
        due("toss(-1)", x.toss(-1), -1);
        due("toss(8)", x.toss(8), -1);
    }
}
