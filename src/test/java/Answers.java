import java.util.ArrayList;
import java.util.List;
import java.util.function.Consumer;
import java.util.function.ToLongFunction;

/**
 * All that can be asked of a tower, as a list: two towers with the same list are in the same state. An object answers
 * for 512 calls alone, so each few questions have an object of their own.
 */
final class Answers {
    private static final int QUESTIONS_OF_ONE_OBJECT = 40;
    private static final int[] NUMBERS = {0, 1, 2, 3, 15};
    private static final int[] TICKS = {1, 2, 3, 4, 5, 6, 7, 20, 47, 48, 1000};

    private static final List<String> NAMES = new ArrayList<>();
    private static final List<ToLongFunction<AlarmTower>> QUESTIONS = new ArrayList<>();

    private Answers() {
    }

    private static void ask(String name, ToLongFunction<AlarmTower> question) {
        NAMES.add(name);
        QUESTIONS.add(question);
    }

    static {
        askOfRules();
        askOfAlarms();
        askOfHands();
        askOfBoards();
        for (int what = 0; what <= 8; what++) {
            int w = what;
            ask("count(" + w + ")", x -> x.count(w));
        }
    }

    private static void askOfRules() {
        for (int r : NUMBERS) {
            for (int s : NUMBERS) {
                ask("truth(" + r + ", " + s + ")", x -> x.truth(r, s));
                ask("whyNot(" + r + ", " + s + ")", x -> x.whyNot(r, s));
                for (int what = 0; what <= 2; what++) {
                    int w = what;
                    ask("counts(" + r + ", " + s + ", " + w + ")", x -> x.counts(r, s, w));
                }
            }
            for (int n : new int[] {1, 2, 3, 2000}) {
                ask("flap(" + r + ", " + n + ")", x -> x.flap(r, n));
            }
            for (int p = 1; p <= 10; p++) {
                int wait = p;
                ask("least(" + r + ", " + p + ")", x -> x.least(r, wait));
            }
        }
    }

    private static void askOfAlarms() {
        for (int number = 0; number <= 6; number++) {
            int n = number;
            for (int what = 0; what <= 8; what++) {
                int w = what;
                ask("alarm(" + n + ", " + w + ")", x -> x.alarm(n, w));
                ask("letter(" + n + ", " + w + ")", x -> x.letter(n, w));
            }
            for (int i = 0; i <= 3; i++) {
                int place = i;
                ask("holds(" + n + ", " + i + ")", x -> x.holds(n, place));
            }
            ask("why(" + n + ")", x -> x.why(n));
        }
    }

    private static void askOfHands() {
        for (int t : TICKS) {
            for (int i : NUMBERS) {
                ask("awake(" + t + ", " + i + ")", x -> x.awake(t, i));
            }
        }
        for (int h : NUMBERS) {
            ask("noise(" + h + ")", x -> x.noise(h));
        }
    }

    private static void askOfBoards() {
        for (int board = 0; board < 8; board++) {
            int d = board;
            ask("weight(" + d + ")", x -> x.weight(d));
            ask("toss(" + d + ")", x -> x.toss(d));
            for (int i : new int[] {0, 1, 2, 3, 4, 5, 59}) {
                ask("element(" + d + ", " + i + ")",
                    x -> Towers.state(x, d, i) == 0 ? x.element(d, i) : Long.MIN_VALUE);
            }
        }
    }

    /** What a tower answers behind these calls, at once and after it has gone on. */
    static List<String> of(Consumer<AlarmTower> calls) {
        List<String> all = new ArrayList<>();
        for (int from = 0; from < QUESTIONS.size(); from += QUESTIONS_OF_ONE_OBJECT) {
            AlarmTower now = new AlarmTower();
            calls.accept(now);
            askFrom(from, now, "at once ", all);
            AlarmTower later = new AlarmTower();
            calls.accept(later);
            goOn(later, from == 0 ? all : new ArrayList<>());
            askFrom(from, later, "later ", all);
        }
        return all;
    }

    private static void askFrom(int from, AlarmTower x, String when, List<String> all) {
        for (int i = from; i < QUESTIONS.size() && i < from + QUESTIONS_OF_ONE_OBJECT; i++) {
            all.add(when + NAMES.get(i) + " = " + QUESTIONS.get(i).applyAsLong(x));
        }
    }

    /** Calls of which each answers or does something else if an earlier one was not what it should have been. */
    private static void goOn(AlarmTower x, List<String> all) {
        all.add("tear(0) = " + x.tear(0));
        all.add("value(0) = " + x.value(0, 12));
        all.add("mask = " + x.mask(5));
        for (int t = 0; t < 3; t++) {
            all.add("tick = " + x.tick());
        }
        all.add("source = " + x.source(2));
        all.add("rule = " + x.rule(0, 1, 1, 10101, -1));
        all.add("hand = " + x.hand());
        all.add("shift = " + x.shift(0, 0, 1, 0));
        all.add("swap = " + x.swap(0, 1, 1, 1));
        all.add("silence = " + x.silence(-1, -1, 1, 1, 0));
        all.add("hold = " + x.hold(2, 1, 0));
        for (int t = 0; t < 3; t++) {
            x.value(1, 40);
            all.add("tick = " + x.tick());
        }
    }
}
