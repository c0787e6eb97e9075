import java.util.ArrayList;
import java.util.Arrays;

/** A tower of alarms; the numbered promises that it keeps stand in the project's document. */
public final class AlarmTower {

    private static final int MAX_TICKS = 400;
    private static final int MAX_TOLD_TICK = 1000;
    private static final int MAX_FLAP_TICKS = 2000;
    private static final int MAX_SOURCES = 16;
    private static final int MAX_RULES = 16;
    private static final int MAX_HOLDS = 40;
    private static final int MAX_SILENCES = 20;
    private static final int MAX_HANDS = 8;
    private static final int MAX_SHIFTS = 40;
    private static final int MAX_SWAPS = 20;
    private static final int MAX_ALARMS = 300;
    private static final int MAX_LETTERS = 200;
    private static final int MAX_IN_LETTER = 40;
    private static final int BOARDS = 8;
    private static final int MAX_ROW = 60;

    private static final int MAX_SITE = 9;
    private static final int MAX_STEP = 9;
    private static final int MAX_WINDOW = 20;
    private static final int MAX_WAIT = 10;
    private static final int MAX_GRADE = 5;
    private static final int ROUND = 48;
    private static final long MAX_VALUE = 1000000000000L;

    private static final int OVER = 0;
    private static final int BACK = 1;
    private static final int RATE = 2;
    private static final int PART = 3;
    private static final int GONE = 4;
    private static final int ODD = 5;
    private static final int BOTH = 6;

    private static final int TRUE = 1;
    private static final int FALSE = 0;
    private static final int NEITHER = -1;

    private static final int LIKE_ANY = 0;
    private static final int LIKE_SITE = 1;
    private static final int LIKES = 3;

    private static final int BY_SITE = 1;
    private static final int BY_RULE = 2;
    private static final int BY_GRADE = 4;
    private static final int MAX_MASK = 7;

    private static final int NO_REASON = 0;
    private static final int FIRST_FRESH = 1;
    private static final int AGAIN_FRESH = 2;
    private static final int STILL_CLEAR = 3;
    private static final int NONE_LASTS = 4;

    private static final int NOTHING = 0;
    private static final int ALARM = 1;
    private static final int NOTE = 2;
    private static final int LONGS = 3;
    private static final int BOOLEANS = 4;

    private static final int REFUSED = -1;
    private static final int FULL = -2;
    private static final int NONE = -2;
    private static final int AGAINST_ORDER = -3;
    private static final int HELD_NOTHING = -11;
    private static final int OTHER_KIND = -12;
    private static final int NO_PLACE = -13;
    private static final int SIZE_BELOW_ZERO = -14;
    private static final int NO_FAILURE = -15;

    private final ArrayList<Source> sources = new ArrayList<>();
    private final ArrayList<Rule> rules = new ArrayList<>();
    private final ArrayList<Silence> silences = new ArrayList<>();
    private final ArrayList<Alarm> alarms = new ArrayList<>();
    private final ArrayList<Group> groups = new ArrayList<>();
    private final ArrayList<Letter> letters = new ArrayList<>();
    private final Board[] boards = new Board[BOARDS];
    private final Roster roster = new Roster();
    private final int[] askedRow = new int[MAX_HANDS];
    private int holdCount = 0;
    private int groupMask = BY_SITE;
    private int firstWait = 2;
    private int againWait = 5;
    private int eachWait = 20;
    private int upWait = 3;
    private int closed = 0;

    public AlarmTower() {
        for (int d = 0; d < BOARDS; d++) {
            boards[d] = new Board();
        }
    }

    // ------------------------------------------------------------------ what is told

    public int source(int site) {
        if (!isWithin(site, 0, MAX_SITE)) {
            return REFUSED;
        }
        if (sources.size() >= MAX_SOURCES) {
            return FULL;
        }
        sources.add(new Source(sources.size(), site));
        return sources.size() - 1;
    }

    public int rule(int what, long a, int b, int how, int site) {
        if (what < 0 || how < 0 || !isWithin(site, -1, MAX_SITE)) {
            return REFUSED;
        }
        if (!isLook(what % 100, what / 100, a, b) || !isManner(how)) {
            return REFUSED;
        }
        if (rules.size() >= MAX_RULES) {
            return FULL;
        }
        Rule rule = new Rule(rules.size(), what, a, b, how, site);
        rules.add(rule);
        return rule.number;
    }

    private boolean isLook(int kind, int window, long a, int b) {
        if (kind >= RATE && kind <= ODD && !isWithin(window, 1, MAX_WINDOW)) {
            return false;
        }
        switch (kind) {
            case OVER:
            case RATE:
            case GONE:
            case ODD:
                return true;
            case BACK:
                return b <= a;
            case PART:
                return isWithin(b, 1, 100);
            case BOTH:
                return a >= 0 && a < rules.size() && b >= 0 && b < rules.size();
            default:
                return false;
        }
    }

    private static boolean isManner(int how) {
        return isWithin(how % 100, 1, MAX_WAIT)
            && isWithin(how / 100 % 100, 1, MAX_WAIT)
            && isWithin(how / 10000, 1, MAX_GRADE);
    }

    public int hold(int r, int h, int like) {
        Rule held = ruleAt(r);
        Rule holder = ruleAt(h);
        if (held == null || holder == null || r == h || !isWithin(like, 0, LIKES - 1)) {
            return REFUSED;
        }
        if (holdCount >= MAX_HOLDS) {
            return FULL;
        }
        if (isHeldOver(h, r)) {
            return AGAINST_ORDER;
        }
        held.addHolder(h, like);
        holdCount++;
        return 0;
    }

    /** Whether the first rule is held by the second, by itself or over others. */
    private boolean isHeldOver(int rule, int holder) {
        int reached = 1 << rule;
        for (int round = 0; round < rules.size(); round++) {
            for (int i = 0; i < rules.size(); i++) {
                if ((reached >> i & 1) == 1) {
                    reached |= rules.get(i).holders();
                }
            }
        }
        return (reached >> holder & 1) == 1;
    }

    public int silence(int site, int rule, int from, int to, int hand) {
        if (!isWithin(site, -1, MAX_SITE) || !isWithin(rule, -1, rules.size() - 1)) {
            return REFUSED;
        }
        if (!areTicks(from, to) || !roster.hasHand(hand)) {
            return REFUSED;
        }
        if (silences.size() >= MAX_SILENCES) {
            return FULL;
        }
        silences.add(new Silence(site, rule, from, to));
        return silences.size() - 1;
    }

    public int mask(int mask) {
        if (!isWithin(mask, 0, MAX_MASK)) {
            return REFUSED;
        }
        if (alarms.size() > 0) {
            return AGAINST_ORDER;
        }
        groupMask = mask;
        return 0;
    }

    public int waits(int first, int again, int each, int up) {
        if (!isWithin(first, 0, 50) || !isWithin(again, 1, 50)) {
            return REFUSED;
        }
        if (!isWithin(each, 1, 100) || !isWithin(up, 1, 50)) {
            return REFUSED;
        }
        firstWait = first;
        againWait = again;
        eachWait = each;
        upWait = up;
        return 0;
    }

    public int hand() {
        return roster.addHand();
    }

    public int shift(int hand, int from, int places, int step) {
        if (!roster.hasHand(hand) || !isWithin(from, 0, ROUND - 1)) {
            return REFUSED;
        }
        if (!isWithin(places, 1, ROUND) || !isWithin(step, 0, MAX_STEP)) {
            return REFUSED;
        }
        return roster.addShift(new Shift(hand, from, places, step));
    }

    public int swap(int a, int b, int from, int to) {
        if (!roster.hasHand(a) || !roster.hasHand(b) || a == b || !areTicks(from, to)) {
            return REFUSED;
        }
        return roster.addSwap(new Swap(a, b, from, to));
    }

    public int value(int source, double v) {
        Source told = sourceAt(source);
        if (told == null) {
            return REFUSED;
        }
        // No number is neither above nor below any, so it fails both comparisons.
        boolean fits = v >= -MAX_VALUE && v <= MAX_VALUE;
        if (!fits || closed >= MAX_TICKS) {
            return FULL;
        }
        boolean had = told.hasAt(closed + 1);
        told.put(closed + 1, (long) v);
        return bit(!had);
    }

    public int tear(int source) {
        Source told = sourceAt(source);
        if (told == null) {
            return REFUSED;
        }
        boolean had = told.hasAt(closed + 1);
        told.drop(closed + 1);
        return bit(had);
    }

    // ------------------------------------------------------------------ the tick

    public int tick() {
        if (closed >= MAX_TICKS) {
            return FULL;
        }
        int t = closed + 1;
        lookByRules(t);
        markAlarms(t);
        climbRows(t);
        int sent = sendLetters(t);
        closed = t;
        return sent;
    }

    private void lookByRules(int t) {
        for (int r = 0; r < rules.size(); r++) {
            Rule rule = rules.get(r);
            for (int s = 0; s < sources.size(); s++) {
                lookAt(rule, sources.get(s), t);
            }
        }
    }

    private void lookAt(Rule rule, Source source, int t) {
        Watch watch = rule.watchAt(source.number);
        if (watch == null || !rule.looksAt(source)) {
            return;
        }
        int truth = rule.kind == BOTH ? truthOfBoth(rule, source) : rule.truthOf(source, watch, t);
        watch.note(truth);
        rule.imagine(watch);
        if (watch.alarm == null && watch.trues >= rule.wait) {
            beginAlarm(rule, source, watch, t);
        } else if (watch.alarm != null && watch.falses >= rule.end) {
            watch.alarm.end(t);
            watch.alarm = null;
        }
    }

    private int truthOfBoth(Rule rule, Source source) {
        Watch one = watchOf((int) rule.a, source.number);
        Watch other = watchOf(rule.b, source.number);
        if (one == null || other == null) {
            return NEITHER;
        }
        if (one.truth == FALSE || other.truth == FALSE) {
            return FALSE;
        }
        return one.truth == TRUE && other.truth == TRUE ? TRUE : NEITHER;
    }

    private void beginAlarm(Rule rule, Source source, Watch watch, int t) {
        if (alarms.size() >= MAX_ALARMS) {
            return;
        }
        watch.alarm = new Alarm(alarms.size(), rule, source, groupOf(rule, source), t);
        alarms.add(watch.alarm);
    }

    private Group groupOf(Rule rule, Source source) {
        for (int g = 0; g < groups.size(); g++) {
            if (groups.get(g).isAlike(rule, source, groupMask)) {
                return groups.get(g);
            }
        }
        Group group = new Group(rule, source);
        groups.add(group);
        return group;
    }

    private void markAlarms(int t) {
        for (int i = 0; i < alarms.size(); i++) {
            Alarm alarm = alarms.get(i);
            if (alarm.lasts()) {
                alarm.mark(isHeld(alarm), isSilenced(alarm, t), t);
            }
        }
    }

    private boolean isHeld(Alarm alarm) {
        for (int h = 0; h < rules.size(); h++) {
            for (int like = 0; like < LIKES; like++) {
                if (alarm.rule.isHeldBy(h, like) && lastsLike(rules.get(h), alarm.source, like)) {
                    return true;
                }
            }
        }
        return false;
    }

    private boolean lastsLike(Rule holder, Source source, int like) {
        for (int s = 0; s < sources.size(); s++) {
            Watch watch = holder.watchAt(s);
            if (watch != null && watch.alarm != null && isLike(sources.get(s), source, like)) {
                return true;
            }
        }
        return false;
    }

    private static boolean isLike(Source one, Source other, int like) {
        if (like == LIKE_ANY) {
            return true;
        }
        return like == LIKE_SITE ? one.site == other.site : one.number == other.number;
    }

    private boolean isSilenced(Alarm alarm, int t) {
        for (int i = 0; i < silences.size(); i++) {
            if (silences.get(i).fits(alarm, t)) {
                return true;
            }
        }
        return false;
    }

    private void climbRows(int t) {
        for (int i = 0; i < letters.size(); i++) {
            letters.get(i).climb(t, upWait);
        }
    }

    private int sendLetters(int t) {
        lookByGroups();
        int before = letters.size();
        for (int g = 0; g < groups.size(); g++) {
            int reason = reasonOf(groups.get(g), t);
            if (reason != NO_REASON && letters.size() < MAX_LETTERS) {
                sendLetter(groups.get(g), reason, t);
            }
        }
        return letters.size() - before;
    }

    private void lookByGroups() {
        for (int g = 0; g < groups.size(); g++) {
            groups.get(g).forget();
        }
        for (int i = 0; i < alarms.size(); i++) {
            alarms.get(i).group.see(alarms.get(i));
        }
    }

    private int reasonOf(Group group, int t) {
        if (!group.open) {
            return group.hasFresh() && group.freshSince <= t - firstWait ? FIRST_FRESH : NO_REASON;
        }
        if (group.hasFresh() && t >= group.last + againWait) {
            return AGAIN_FRESH;
        }
        if (group.hasClear && t >= group.last + eachWait) {
            return STILL_CLEAR;
        }
        return group.hasLasting ? NO_REASON : NONE_LASTS;
    }

    private void sendLetter(Group group, int reason, int t) {
        Letter letter = new Letter(group, reason, t);
        for (int i = 0; i < alarms.size(); i++) {
            Alarm alarm = alarms.get(i);
            if (alarm.group == group && alarm.isClear() && letter.add(alarm)) {
                alarm.tellLasting();
            }
        }
        for (int i = 0; i < alarms.size(); i++) {
            Alarm alarm = alarms.get(i);
            if (alarm.group == group && alarm.wantsEndTold() && letter.add(alarm)) {
                alarm.tellEnd();
            }
        }
        letter.rowSize = roster.fillRow(t, letter.row);
        letters.add(letter);
        group.open = reason != NONE_LASTS;
        group.last = t;
    }

    // ------------------------------------------------------------------ what is asked

    public int truth(int rule, int source) {
        Watch watch = watchOf(rule, source);
        if (watch == null) {
            return NONE;
        }
        return closed == 0 ? AGAINST_ORDER : watch.truth;
    }

    public int counts(int rule, int source, int what) {
        Watch watch = watchOf(rule, source);
        if (watch == null) {
            return REFUSED;
        }
        switch (what) {
            case 0:
                return watch.trues;
            case 1:
                return watch.falses;
            case 2:
                return watch.alarm == null ? NONE : watch.alarm.number;
            default:
                return REFUSED;
        }
    }

    public int alarm(int alarm, int what) {
        Alarm asked = alarmAt(alarm);
        if (asked == null) {
            return REFUSED;
        }
        switch (what) {
            case 0:
                return asked.rule.number;
            case 1:
                return asked.source.number;
            case 2:
                return asked.began;
            case 3:
                return asked.ended;
            case 4:
                return asked.rule.grade;
            case 5:
                return bit(asked.held);
            case 6:
                return bit(asked.silenced);
            case 7:
                return asked.clearSince;
            case 8:
                return asked.letters;
            default:
                return REFUSED;
        }
    }

    public int letter(int letter, int what) {
        Letter asked = letterAt(letter);
        if (asked == null) {
            return REFUSED;
        }
        switch (what) {
            case 0:
                return asked.sentAt;
            case 1:
                return asked.size == 0 ? NONE : asked.alarmAt(0);
            case 2:
                return asked.size;
            case 3:
                return asked.latestHand();
            case 4:
                return asked.wentAt;
            case 5:
                return asked.answeredBy;
            case 6:
                return asked.answeredAt;
            case 7:
                return asked.rowSize;
            case 8:
                return bit(asked.reason == NONE_LASTS);
            default:
                return REFUSED;
        }
    }

    public int holds(int letter, int i) {
        Letter asked = letterAt(letter);
        return asked == null ? REFUSED : asked.alarmAt(i);
    }

    public int why(int letter) {
        Letter asked = letterAt(letter);
        return asked == null ? REFUSED : asked.reason;
    }

    public int whyNot(int rule, int source) {
        Watch watch = watchOf(rule, source);
        if (watch == null) {
            return REFUSED;
        }
        if (watch.alarm == null) {
            return watch.trues > 0 ? 1 : 0;
        }
        if (watch.alarm.held) {
            return 2;
        }
        if (watch.alarm.silenced) {
            return 3;
        }
        return watch.alarm.isFresh() ? 5 : 4;
    }

    public int awake(int tick, int i) {
        if (!isWithin(tick, 1, MAX_TOLD_TICK) || i < 0) {
            return REFUSED;
        }
        int count = roster.fillRow(tick, askedRow);
        return i < count && i < askedRow.length ? askedRow[i] : NONE;
    }

    public int answer(int letter, int hand) {
        Letter asked = letterAt(letter);
        if (asked == null || !roster.hasHand(hand)) {
            return REFUSED;
        }
        if (!asked.wentTo(hand)) {
            return NONE;
        }
        if (asked.isAnswered()) {
            return AGAINST_ORDER;
        }
        asked.answeredBy = hand;
        asked.answeredAt = closed + 1;
        asked.group.last = closed + 1;
        return 0;
    }

    public int noise(int hand) {
        if (!roster.hasHand(hand)) {
            return REFUSED;
        }
        int count = 0;
        for (int i = 0; i < letters.size(); i++) {
            count += bit(letters.get(i).wentTo(hand));
        }
        return count;
    }

    public int flap(int rule, int n) {
        if (ruleAt(rule) == null || !isWithin(n, 1, MAX_FLAP_TICKS)) {
            return REFUSED;
        }
        int after = Math.max(0, closed - n);
        int count = 0;
        for (int i = 0; i < alarms.size(); i++) {
            Alarm alarm = alarms.get(i);
            if (alarm.rule.number == rule) {
                count += bit(alarm.began > after) + bit(alarm.ended > after);
            }
        }
        return count;
    }

    public int least(int rule, int p) {
        Rule asked = ruleAt(rule);
        if (asked == null || !isWithin(p, 1, MAX_WAIT)) {
            return REFUSED;
        }
        return asked.begunAt(p);
    }

    public int count(int what) {
        switch (what) {
            case 0:
                return sources.size();
            case 1:
                return rules.size();
            case 2:
                return roster.hands;
            case 3:
                return closed;
            case 4:
                return alarms.size();
            case 5:
                return lastingCount();
            case 6:
                return letters.size();
            case 7:
                return unansweredCount();
            case 8:
                return groups.size();
            default:
                return REFUSED;
        }
    }

    private int lastingCount() {
        int count = 0;
        for (int i = 0; i < alarms.size(); i++) {
            count += bit(alarms.get(i).lasts());
        }
        return count;
    }

    private int unansweredCount() {
        int count = 0;
        for (int i = 0; i < letters.size(); i++) {
            count += bit(!letters.get(i).isAnswered());
        }
        return count;
    }

    // ------------------------------------------------------------------ the boards

    public int keep(int d, int what, int k) {
        Board board = boardAt(d);
        if (board == null) {
            return REFUSED;
        }
        switch (what) {
            case NOTHING:
            case NOTE:
                board.keepBare(what);
                return 0;
            case ALARM:
                return keepAlarm(board, alarmAt(k));
            case LONGS:
            case BOOLEANS:
                return keepRow(board, what, sourceAt(k));
            default:
                return REFUSED;
        }
    }

    private static int keepAlarm(Board board, Alarm alarm) {
        if (alarm == null) {
            return REFUSED;
        }
        board.keepAlarm(alarm);
        return 0;
    }

    private int keepRow(Board board, int kind, Source source) {
        if (source == null) {
            return REFUSED;
        }
        int size = Math.min(closed, MAX_ROW);
        board.keepRow(kind, size);
        for (int i = 0; i < size; i++) {
            int t = closed - size + 1 + i;
            board.put(i, kind == LONGS ? source.at(t) : bit(source.hasAt(t)));
        }
        return 0;
    }

    public int make(int d, int what, int n) {
        Board board = boardAt(d);
        if (board == null || !isWithin(what, LONGS, BOOLEANS) || n > MAX_ROW) {
            return REFUSED;
        }
        if (n < 0) {
            return SIZE_BELOW_ZERO;
        }
        board.keepRow(what, n);
        return 0;
    }

    public long element(int d, int i) throws IllegalArgumentException, IllegalStateException {
        Board board = boardAt(d);
        if (board == null) {
            throw new IllegalArgumentException("no such board");
        }
        if (!board.isRow() || !isWithin(i, 0, board.size - 1)) {
            throw new IllegalStateException("no such element");
        }
        return board.get(i);
    }

    public int copy(int d, int i, int e, int j, int n) {
        Board from = boardAt(d);
        Board to = boardAt(e);
        if (from == null || to == null) {
            return REFUSED;
        }
        if (from.kind == NOTHING || to.kind == NOTHING) {
            return HELD_NOTHING;
        }
        if (!from.isRow() || from.kind != to.kind) {
            return OTHER_KIND;
        }
        if (!from.hasSpan(i, n) || !to.hasSpan(j, n)) {
            return NO_PLACE;
        }
        System.arraycopy(from.row, i, to.row, j, n);
        return n;
    }

    public int weight(int d) {
        int refusal = refusalOfAlarm(d);
        Alarm alarm = alarmOn(d);
        if (refusal != 0 || alarm == null) {
            return refusal;
        }
        int kind = alarm.rule.kind;
        int weight = 10 * alarm.rule.grade + kind;
        if (kind != OVER) {
            weight += 100;
        }
        if (kind == PART || kind == ODD) {
            weight += 1000;
        }
        return weight;
    }

    public int toss(int d) {
        int refusal = refusalOfAlarm(d);
        Alarm alarm = alarmOn(d);
        if (refusal != 0 || alarm == null) {
            return refusal;
        }
        try {
            throwFailure(alarm);
            return NO_FAILURE;
        } catch (IllegalStateException failure) {
            return alarm.rule.number;
        }
    }

    private static void throwFailure(Alarm alarm) {
        if (alarm.rule.kind != OVER) {
            throw new IllegalStateException("the alarm's failure");
        }
    }

    /** 0 if the board holds an alarm. */
    private int refusalOfAlarm(int d) {
        Board board = boardAt(d);
        if (board == null) {
            return REFUSED;
        }
        if (board.kind == NOTHING) {
            return HELD_NOTHING;
        }
        return board.alarm == null ? OTHER_KIND : 0;
    }

    private Alarm alarmOn(int d) {
        Board board = boardAt(d);
        return board == null ? null : board.alarm;
    }

    // ------------------------------------------------------------------ small helps

    private static boolean isWithin(int x, int least, int most) {
        return x >= least && x <= most;
    }

    private static boolean areTicks(int from, int to) {
        return from >= 1 && from <= to && to <= MAX_TOLD_TICK;
    }

    private static int bit(boolean yes) {
        return yes ? 1 : 0;
    }

    private Source sourceAt(int s) {
        return s >= 0 && s < sources.size() ? sources.get(s) : null;
    }

    private Rule ruleAt(int r) {
        return r >= 0 && r < rules.size() ? rules.get(r) : null;
    }

    private Alarm alarmAt(int a) {
        return a >= 0 && a < alarms.size() ? alarms.get(a) : null;
    }

    private Letter letterAt(int l) {
        return l >= 0 && l < letters.size() ? letters.get(l) : null;
    }

    private Board boardAt(int d) {
        return d >= 0 && d < boards.length ? boards[d] : null;
    }

    private Watch watchOf(int r, int s) {
        Rule rule = ruleAt(r);
        return rule == null || sourceAt(s) == null ? null : rule.watchAt(s);
    }

    // ------------------------------------------------------------------ the classes

    private static final class Source {
        final int number;
        final int site;
        private final long[] values = new long[MAX_TICKS + 1];
        private final boolean[] told = new boolean[MAX_TICKS + 1];

        Source(int number, int site) {
            this.number = number;
            this.site = site;
        }

        boolean hasAt(int t) {
            return t >= 1 && t < told.length && told[t];
        }

        /** 0 where it was silent. */
        long at(int t) {
            return hasAt(t) && t < values.length ? values[t] : 0;
        }

        void put(int t, long v) {
            if (t >= 1 && t < told.length && t < values.length) {
                told[t] = true;
                values[t] = v;
            }
        }

        void drop(int t) {
            if (t >= 1 && t < told.length) {
                told[t] = false;
            }
        }

        boolean isSilentIn(int from, int to) {
            for (int t = from; t <= to; t++) {
                if (hasAt(t)) {
                    return false;
                }
            }
            return true;
        }
    }

    private static final class Rule {
        final int number;
        final int kind;
        final long a;
        final int b;
        final int wait;
        final int end;
        final int grade;
        private final int window;
        private final int site;
        private final Watch[] watches = new Watch[MAX_SOURCES];
        // For each way to be alike: the rules that hold this one, a bit each.
        private final int[] heldBy = new int[LIKES];
        // How many alarms would have begun, for each wait that could have been told.
        private final int[] wouldBegin = new int[MAX_WAIT + 1];
        private final long[] sorted = new long[MAX_WINDOW];

        Rule(int number, int what, long a, int b, int how, int site) {
            this.number = number;
            this.kind = what % 100;
            this.window = what / 100;
            this.a = a;
            this.b = b;
            this.wait = how % 100;
            this.end = how / 100 % 100;
            this.grade = how / 10000;
            this.site = site;
            for (int s = 0; s < MAX_SOURCES; s++) {
                watches[s] = new Watch();
            }
        }

        Watch watchAt(int s) {
            return s >= 0 && s < watches.length ? watches[s] : null;
        }

        boolean looksAt(Source source) {
            return site == -1 || site == source.site;
        }

        void addHolder(int h, int like) {
            if (like >= 0 && like < heldBy.length) {
                heldBy[like] |= 1 << h;
            }
        }

        boolean isHeldBy(int h, int like) {
            return like >= 0 && like < heldBy.length && (heldBy[like] >> h & 1) == 1;
        }

        int holders() {
            int all = 0;
            for (int like = 0; like < heldBy.length; like++) {
                all |= heldBy[like];
            }
            return all;
        }

        /** Of every kind but the one that looks at other rules. */
        int truthOf(Source source, Watch watch, int t) {
            if (kind == GONE) {
                return bit(source.isSilentIn(t - window + 1, t));
            }
            if (!source.hasAt(t)) {
                return NEITHER;
            }
            long v = source.at(t);
            switch (kind) {
                case OVER:
                    return bit(v > a);
                case BACK:
                    return bit(v > a || v >= b && watch.known == TRUE);
                case RATE:
                    return source.hasAt(t - window) ? bit(v - source.at(t - window) > a) : NEITHER;
                case PART:
                    return bit(isPartAbove(source, t, window) && isPartAbove(source, t, 2 * window));
                case ODD:
                    return bit(isOdd(v, sortBefore(source, t)));
                default:
                    return NEITHER;
            }
        }

        private boolean isPartAbove(Source source, int t, int ticks) {
            int all = 0;
            int above = 0;
            for (int i = t - ticks + 1; i <= t; i++) {
                if (source.hasAt(i)) {
                    all++;
                    above += bit(source.at(i) > a);
                }
            }
            return 100 * above >= b * all;
        }

        private boolean isOdd(long v, int count) {
            if (count < 3) {
                return false;
            }
            int middle = (count - 1) / 2;
            long apart = middle < sorted.length ? v - sorted[middle] : 0;
            return Math.abs(apart) > Math.max(a, 0);
        }

        private int sortBefore(Source source, int t) {
            int count = 0;
            for (int i = t - window; i < t; i++) {
                if (source.hasAt(i) && count < sorted.length) {
                    insert(source.at(i), count);
                    count++;
                }
            }
            return count;
        }

        private void insert(long v, int count) {
            int place = count;
            while (place > 0 && place < sorted.length && sorted[place - 1] > v) {
                sorted[place] = sorted[place - 1];
                place--;
            }
            if (place >= 0 && place < sorted.length) {
                sorted[place] = v;
            }
        }

        /** Goes along with every wait that could have been told, room or not. */
        void imagine(Watch watch) {
            for (int p = 1; p < wouldBegin.length && p < watch.wouldLast.length; p++) {
                if (!watch.wouldLast[p] && watch.trues >= p) {
                    watch.wouldLast[p] = true;
                    wouldBegin[p]++;
                } else if (watch.wouldLast[p] && watch.falses >= end) {
                    watch.wouldLast[p] = false;
                }
            }
        }

        int begunAt(int p) {
            return p >= 0 && p < wouldBegin.length ? wouldBegin[p] : 0;
        }
    }

    /** What a rule knows of a source. */
    private static final class Watch {
        int truth = NEITHER;
        // The truth in the last tick in which it was not neither.
        int known = NEITHER;
        int trues = 0;
        int falses = 0;
        // The one that lasts, or null.
        Alarm alarm = null;
        final boolean[] wouldLast = new boolean[MAX_WAIT + 1];

        void note(int now) {
            truth = now;
            if (now == NEITHER) {
                return;
            }
            known = now;
            trues = now == TRUE ? trues + 1 : 0;
            falses = now == TRUE ? 0 : falses + 1;
        }
    }

    private static final class Silence {
        private final int site;
        private final int rule;
        private final int from;
        private final int to;

        Silence(int site, int rule, int from, int to) {
            this.site = site;
            this.rule = rule;
            this.from = from;
            this.to = to;
        }

        boolean fits(Alarm alarm, int t) {
            return t >= from && t <= to
                && (site == -1 || site == alarm.source.site)
                && (rule == -1 || rule == alarm.rule.number);
        }
    }

    private static final class Alarm {
        final int number;
        final Rule rule;
        final Source source;
        final Group group;
        final int began;
        int ended = 0;
        boolean held = false;
        boolean silenced = false;
        int clearSince = 0;
        int letters = 0;
        private boolean toldSinceClear = false;
        private boolean toldLasting = false;
        private boolean toldEnd = false;

        Alarm(int number, Rule rule, Source source, Group group, int began) {
            this.number = number;
            this.rule = rule;
            this.source = source;
            this.group = group;
            this.began = began;
        }

        boolean lasts() {
            return ended == 0;
        }

        boolean isClear() {
            return clearSince > 0;
        }

        boolean isFresh() {
            return isClear() && !toldSinceClear;
        }

        void mark(boolean nowHeld, boolean nowSilenced, int t) {
            held = nowHeld;
            silenced = nowSilenced;
            if (held || silenced) {
                clearSince = 0;
            } else if (clearSince == 0) {
                clearSince = t;
                toldSinceClear = false;
            }
        }

        void end(int t) {
            ended = t;
            held = false;
            silenced = false;
            clearSince = 0;
        }

        void tellLasting() {
            letters++;
            toldSinceClear = true;
            toldLasting = true;
        }

        boolean wantsEndTold() {
            return !lasts() && toldLasting && !toldEnd;
        }

        void tellEnd() {
            letters++;
            toldEnd = true;
        }
    }

    /** Alarms that are alike; its rule and source are those of its first one. */
    private static final class Group {
        private final Rule rule;
        private final Source source;
        boolean open = false;
        // The tick of the latest letter or answer.
        int last = 0;
        boolean hasLasting = false;
        boolean hasClear = false;
        // The least tick since which one of its alarms is fresh, 0 without.
        int freshSince = 0;

        Group(Rule rule, Source source) {
            this.rule = rule;
            this.source = source;
        }

        boolean isAlike(Rule otherRule, Source otherSource, int byMask) {
            return ((byMask & BY_SITE) == 0 || source.site == otherSource.site)
                && ((byMask & BY_RULE) == 0 || rule.number == otherRule.number)
                && ((byMask & BY_GRADE) == 0 || rule.grade == otherRule.grade);
        }

        boolean hasFresh() {
            return freshSince > 0;
        }

        void forget() {
            hasLasting = false;
            hasClear = false;
            freshSince = 0;
        }

        void see(Alarm alarm) {
            hasLasting = hasLasting || alarm.lasts();
            hasClear = hasClear || alarm.isClear();
            if (alarm.isFresh() && (freshSince == 0 || alarm.clearSince < freshSince)) {
                freshSince = alarm.clearSince;
            }
        }
    }

    private static final class Letter {
        final Group group;
        final int reason;
        final int sentAt;
        final int[] row = new int[MAX_HANDS];
        int rowSize = 0;
        int wentAt;
        int size = 0;
        int answeredBy = NONE;
        int answeredAt = 0;
        // The place in the row that it went to last; behind the row it went to all.
        private int place = 0;
        private final int[] numbers = new int[MAX_IN_LETTER];

        Letter(Group group, int reason, int t) {
            this.group = group;
            this.reason = reason;
            this.sentAt = t;
            this.wentAt = t;
        }

        /** Whether there was room for it. */
        boolean add(Alarm alarm) {
            if (size >= numbers.length) {
                return false;
            }
            numbers[size] = alarm.number;
            size++;
            return true;
        }

        /** -1 if there is none at that place. */
        int alarmAt(int i) {
            return i >= 0 && i < size && i < numbers.length ? numbers[i] : REFUSED;
        }

        boolean isAnswered() {
            return answeredAt > 0;
        }

        private boolean isToAll() {
            return place >= rowSize;
        }

        int latestHand() {
            return isToAll() || place >= row.length ? NONE : row[place];
        }

        void climb(int t, int up) {
            if (!isAnswered() && !isToAll() && t >= wentAt + up) {
                place++;
                wentAt = t;
            }
        }

        boolean wentTo(int hand) {
            if (isToAll()) {
                return true;
            }
            for (int i = 0; i <= place && i < row.length; i++) {
                if (row[i] == hand) {
                    return true;
                }
            }
            return false;
        }
    }

    private static final class Shift {
        final int hand;
        final int step;
        private final int from;
        private final int places;

        Shift(int hand, int from, int places, int step) {
            this.hand = hand;
            this.from = from;
            this.places = places;
            this.step = step;
        }

        boolean covers(int t) {
            return Math.floorMod(t - from, ROUND) < places;
        }
    }

    private static final class Swap {
        final int one;
        final int other;
        private final int from;
        private final int to;

        Swap(int one, int other, int from, int to) {
            this.one = one;
            this.other = other;
            this.from = from;
            this.to = to;
        }

        boolean covers(int t) {
            return t >= from && t <= to;
        }
    }

    /** Who is awake when. */
    private static final class Roster {
        private static final int ASLEEP = MAX_STEP + 1;

        int hands = 0;
        private final ArrayList<Shift> shifts = new ArrayList<>();
        private final ArrayList<Swap> swaps = new ArrayList<>();
        // Whose shifts each hand stands in, at the tick that is looked at.
        private final int[] standsFor = new int[MAX_HANDS];
        private final int[] leastSteps = new int[MAX_HANDS];

        boolean hasHand(int hand) {
            return hand >= 0 && hand < hands;
        }

        int addHand() {
            if (hands >= MAX_HANDS) {
                return FULL;
            }
            hands++;
            return hands - 1;
        }

        int addShift(Shift shift) {
            if (shifts.size() >= MAX_SHIFTS) {
                return FULL;
            }
            shifts.add(shift);
            return shifts.size() - 1;
        }

        int addSwap(Swap swap) {
            if (swaps.size() >= MAX_SWAPS) {
                return FULL;
            }
            swaps.add(swap);
            return swaps.size() - 1;
        }

        /** Writes the hands that are awake at a tick, in their order; how many. */
        int fillRow(int t, int[] row) {
            stand(t);
            findSteps(t);
            int count = 0;
            for (int step = 0; step <= MAX_STEP; step++) {
                for (int hand = 0; hand < leastSteps.length; hand++) {
                    if (leastSteps[hand] == step && count < row.length) {
                        row[count] = hand;
                        count++;
                    }
                }
            }
            return count;
        }

        private void stand(int t) {
            for (int hand = 0; hand < standsFor.length; hand++) {
                standsFor[hand] = hand;
            }
            for (int i = 0; i < swaps.size(); i++) {
                Swap swap = swaps.get(i);
                if (swap.covers(t)) {
                    exchange(swap.one, swap.other);
                }
            }
        }

        private void exchange(int one, int other) {
            if (hasHand(one) && one < standsFor.length && hasHand(other) && other < standsFor.length) {
                int kept = standsFor[one];
                standsFor[one] = standsFor[other];
                standsFor[other] = kept;
            }
        }

        private void findSteps(int t) {
            Arrays.fill(leastSteps, ASLEEP);
            for (int i = 0; i < shifts.size(); i++) {
                Shift shift = shifts.get(i);
                if (shift.covers(t)) {
                    wakeAt(shift);
                }
            }
        }

        private void wakeAt(Shift shift) {
            for (int hand = 0; hand < leastSteps.length && hand < standsFor.length; hand++) {
                if (standsFor[hand] == shift.hand) {
                    leastSteps[hand] = Math.min(leastSteps[hand], shift.step);
                }
            }
        }
    }

    private static final class Board {
        int kind = NOTHING;
        // Null unless an alarm is held.
        Alarm alarm = null;
        int size = 0;
        // Booleans stand in it as 1 and 0.
        final long[] row = new long[MAX_ROW];

        /** Nothing, or a note: no call asks for its number. */
        void keepBare(int bareKind) {
            kind = bareKind;
            alarm = null;
        }

        void keepAlarm(Alarm kept) {
            kind = ALARM;
            alarm = kept;
        }

        void keepRow(int rowKind, int rowSize) {
            kind = rowKind;
            alarm = null;
            size = Math.min(rowSize, MAX_ROW);
            Arrays.fill(row, 0L);
        }

        boolean isRow() {
            return kind == LONGS || kind == BOOLEANS;
        }

        void put(int i, long v) {
            if (i >= 0 && i < row.length) {
                row[i] = v;
            }
        }

        long get(int i) {
            return i >= 0 && i < row.length ? row[i] : 0;
        }

        boolean hasSpan(int from, int n) {
            return from >= 0 && n >= 0 && from <= size - n;
        }
    }
}
