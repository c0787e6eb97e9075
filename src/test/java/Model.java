import java.util.ArrayList;
import java.util.Arrays;
import java.util.List;

/**
 * The document's words, answered from the history of all calls: what can be derived is derived anew at every
 * question. Slow, and written apart from the program, so that both are seldom wrong in the same way.
 */
final class Model {
    static final class RuleTold {
        int kind;
        int n;
        int p;
        int e;
        int grade;
        int site;
        long a;
        int b;
    }

    static final class AlarmTold {
        int number;
        String group;
        int rule;
        int source;
        int began;
        int ended;
        boolean[] held = new boolean[402];
        boolean[] silenced = new boolean[402];
    }

    static final class LetterTold {
        int tick;
        int why;
        String group;
        List<Integer> alarms = new ArrayList<>();
        List<Integer> row;
        /** The hands that it went to, -2 for all, and when. */
        List<Integer> went = new ArrayList<>();
        List<Integer> wentAt = new ArrayList<>();
        int answeredBy = -2;
        int answeredAt;
    }

    private final List<Integer> sites = new ArrayList<>();
    private final Long[][] values = new Long[16][402];
    private final List<RuleTold> rules = new ArrayList<>();
    private final int[][][] truths = new int[16][16][402];
    private final List<int[]> holds = new ArrayList<>();
    private final List<int[]> silences = new ArrayList<>();
    private final List<int[]> shifts = new ArrayList<>();
    private final List<int[]> swaps = new ArrayList<>();
    private final List<AlarmTold> alarms = new ArrayList<>();
    private final List<LetterTold> letters = new ArrayList<>();
    private final Object[] boards = new Object[8];
    private int hands;
    private int mask = 1;
    private int first = 2;
    private int again = 5;
    private int each = 20;
    private int up = 3;
    private int now;

    Model() {
        for (int[][] ofRule : truths) {
            for (int[] ofSource : ofRule) {
                Arrays.fill(ofSource, -1);
            }
        }
    }

    private static boolean in(long x, long least, long most) {
        return least <= x && x <= most;
    }

    private boolean noSource(int s) {
        return !in(s, 0, sites.size() - 1);
    }

    private boolean noRule(int r) {
        return !in(r, 0, rules.size() - 1);
    }

    private boolean noHand(int h) {
        return !in(h, 0, hands - 1);
    }

    private boolean noTicks(int from, int to) {
        return !in(from, 1, 1000) || !in(to, from, 1000);
    }

    // ------------------------------------------------------------------ what is told

    int source(int site) {
        if (!in(site, 0, 9)) {
            return -1;
        }
        if (sites.size() == 16) {
            return -2;
        }
        sites.add(site);
        return sites.size() - 1;
    }

    int rule(int what, long a, int b, int how, int site) {
        RuleTold r = new RuleTold();
        r.kind = what % 100;
        r.n = what / 100;
        r.p = how % 100;
        r.e = how / 100 % 100;
        r.grade = how / 10000;
        r.site = site;
        r.a = a;
        r.b = b;
        boolean told = what >= 0 && in(r.kind, 0, 6) && how >= 0 && in(r.p, 1, 10) && in(r.e, 1, 10)
            && in(r.grade, 1, 5) && in(site, -1, 9);
        if (r.kind >= 2 && r.kind <= 5) {
            told &= in(r.n, 1, 20);
        }
        if (r.kind == 1) {
            told &= !(b > a);
        }
        if (r.kind == 3) {
            told &= in(b, 1, 100);
        }
        if (r.kind == 6) {
            told &= in(a, 0, rules.size() - 1) && in(b, 0, rules.size() - 1);
        }
        if (!told) {
            return -1;
        }
        if (rules.size() == 16) {
            return -2;
        }
        rules.add(r);
        return rules.size() - 1;
    }

    int hold(int r, int h, int like) {
        if (noRule(r) || noRule(h) || r == h || !in(like, 0, 2)) {
            return -1;
        }
        if (holds.size() == 40) {
            return -2;
        }
        if (holdsOver(r, h, 0)) {
            return -3;
        }
        holds.add(new int[] {r, h, like});
        return 0;
    }

    private boolean holdsOver(int holder, int held, int depth) {
        if (depth > 16) {
            return false;
        }
        for (int[] told : holds) {
            if (told[1] == holder && (told[0] == held || holdsOver(told[0], held, depth + 1))) {
                return true;
            }
        }
        return false;
    }

    int silence(int site, int rule, int from, int to, int hand) {
        if (!in(site, -1, 9) || !in(rule, -1, rules.size() - 1) || noTicks(from, to) || noHand(hand)) {
            return -1;
        }
        if (silences.size() == 20) {
            return -2;
        }
        silences.add(new int[] {site, rule, from, to});
        return silences.size() - 1;
    }

    int mask(int m) {
        if (!in(m, 0, 7)) {
            return -1;
        }
        if (!alarms.isEmpty()) {
            return -3;
        }
        mask = m;
        return 0;
    }

    int waits(int f, int a, int e, int u) {
        if (!in(f, 0, 50) || !in(a, 1, 50) || !in(e, 1, 100) || !in(u, 1, 50)) {
            return -1;
        }
        first = f;
        again = a;
        each = e;
        up = u;
        return 0;
    }

    int hand() {
        return hands == 8 ? -2 : hands++;
    }

    int shift(int hand, int from, int places, int step) {
        if (noHand(hand) || !in(from, 0, 47) || !in(places, 1, 48) || !in(step, 0, 9)) {
            return -1;
        }
        if (shifts.size() == 40) {
            return -2;
        }
        shifts.add(new int[] {hand, from, places, step});
        return shifts.size() - 1;
    }

    int swap(int a, int b, int from, int to) {
        if (noHand(a) || noHand(b) || a == b || noTicks(from, to)) {
            return -1;
        }
        if (swaps.size() == 20) {
            return -2;
        }
        swaps.add(new int[] {a, b, from, to});
        return swaps.size() - 1;
    }

    int value(int s, double v) {
        if (noSource(s)) {
            return -1;
        }
        if (Double.isNaN(v) || Math.abs(v) > 1e12 || now == 400) {
            return -2;
        }
        int had = values[s][now + 1] == null ? 1 : 0;
        values[s][now + 1] = (long) v;
        return had;
    }

    int tear(int s) {
        if (noSource(s)) {
            return -1;
        }
        int had = values[s][now + 1] == null ? 0 : 1;
        values[s][now + 1] = null;
        return had;
    }

    // ------------------------------------------------------------------ truths

    private Long at(int s, int t) {
        return t < 1 ? null : values[s][t];
    }

    private List<Long> told(int s, int from, int to) {
        List<Long> all = new ArrayList<>();
        for (int t = from; t <= to; t++) {
            if (at(s, t) != null) {
                all.add(at(s, t));
            }
        }
        return all;
    }

    private int truthIn(int r, int s, int t) {
        RuleTold rule = rules.get(r);
        if (rule.site != -1 && rule.site != sites.get(s)) {
            return -1;
        }
        if (rule.kind == 4) {
            return told(s, t - rule.n + 1, t).isEmpty() ? 1 : 0;
        }
        if (rule.kind == 6) {
            int x = truths[(int) rule.a][s][t];
            int y = truths[rule.b][s][t];
            return x == 1 && y == 1 ? 1 : x == 0 || y == 0 ? 0 : -1;
        }
        Long v = at(s, t);
        if (v == null) {
            return -1;
        }
        boolean yes;
        if (rule.kind == 0) {
            yes = v > rule.a;
        } else if (rule.kind == 1) {
            yes = v > rule.a || v >= rule.b && latestKnown(r, s, t - 1) == 1;
        } else if (rule.kind == 2) {
            if (at(s, t - rule.n) == null) {
                return -1;
            }
            yes = v - at(s, t - rule.n) > rule.a;
        } else if (rule.kind == 3) {
            yes = part(s, t, rule.n, rule) && part(s, t, 2 * rule.n, rule);
        } else {
            List<Long> before = told(s, t - rule.n, t - 1);
            before.sort(null);
            yes = before.size() >= 3
                && Math.abs(v - before.get((before.size() - 1) / 2)) > (rule.a < 0 ? 0 : rule.a);
        }
        return yes ? 1 : 0;
    }

    private boolean part(int s, int t, int n, RuleTold rule) {
        List<Long> all = told(s, t - n + 1, t);
        long above = all.stream().filter(v -> v > rule.a).count();
        return above * 100 >= (long) rule.b * all.size();
    }

    private int latestKnown(int r, int s, int t) {
        for (int i = t; i >= 1; i--) {
            if (truths[r][s][i] != -1) {
                return truths[r][s][i];
            }
        }
        return -1;
    }

    /** How many times the truth was so since it was the other, up to a tick. */
    private int run(int r, int s, int truth, int t) {
        int count = 0;
        for (int i = t; i >= 1 && truths[r][s][i] != 1 - truth; i--) {
            count += truths[r][s][i] == truth ? 1 : 0;
        }
        return count;
    }

    // ------------------------------------------------------------------ the tick

    int tick() {
        if (now == 400) {
            return -2;
        }
        now++;
        for (int r = 0; r < rules.size(); r++) {
            for (int s = 0; s < sites.size(); s++) {
                truths[r][s][now] = truthIn(r, s, now);
            }
        }
        for (int r = 0; r < rules.size(); r++) {
            for (int s = 0; s < sites.size(); s++) {
                beginOrEnd(r, s);
            }
        }
        for (AlarmTold a : alarms) {
            a.held[now] = a.ended == 0 && heldNow(a);
            a.silenced[now] = a.ended == 0 && silencedNow(a);
        }
        for (LetterTold l : letters) {
            goUp(l);
        }
        int before = letters.size();
        List<String> seen = new ArrayList<>();
        for (AlarmTold a : alarms) {
            if (!seen.contains(a.group)) {
                seen.add(a.group);
                int why = reason(a.group);
                if (why != 0 && letters.size() < 200) {
                    send(a.group, why);
                }
            }
        }
        return letters.size() - before;
    }

    private int lasting(int r, int s) {
        for (int i = 0; i < alarms.size(); i++) {
            AlarmTold a = alarms.get(i);
            if (a.rule == r && a.source == s && a.ended == 0) {
                return i;
            }
        }
        return -2;
    }

    private void beginOrEnd(int r, int s) {
        int lasting = lasting(r, s);
        if (lasting < 0 && run(r, s, 1, now) >= rules.get(r).p && alarms.size() < 300) {
            AlarmTold a = new AlarmTold();
            a.rule = r;
            a.source = s;
            a.began = now;
            a.number = alarms.size();
            a.group = group(a);
            alarms.add(a);
        } else if (lasting >= 0 && run(r, s, 0, now) >= rules.get(r).e) {
            alarms.get(lasting).ended = now;
        }
    }

    private boolean heldNow(AlarmTold a) {
        for (int[] told : holds) {
            for (AlarmTold other : alarms) {
                boolean alike = told[2] == 0 || told[2] == 1 && sites.get(other.source).equals(sites.get(a.source))
                    || told[2] == 2 && other.source == a.source;
                if (told[0] == a.rule && told[1] == other.rule && other.ended == 0 && alike) {
                    return true;
                }
            }
        }
        return false;
    }

    private boolean silencedNow(AlarmTold a) {
        for (int[] told : silences) {
            if ((told[0] == -1 || told[0] == sites.get(a.source)) && (told[1] == -1 || told[1] == a.rule)
                && in(now, told[2], told[3])) {
                return true;
            }
        }
        return false;
    }

    private int clearSince(AlarmTold a) {
        int since = 0;
        if (a.ended == 0) {
            for (int t = now; t >= a.began && !a.held[t] && !a.silenced[t]; t--) {
                since = t;
            }
        }
        return since;
    }

    private boolean inLetter(AlarmTold a, int from, int to) {
        for (LetterTold l : letters) {
            if (in(l.tick, from, to) && l.alarms.contains(a.number)) {
                return true;
            }
        }
        return false;
    }

    private boolean fresh(AlarmTold a) {
        int since = clearSince(a);
        return since > 0 && !inLetter(a, since, now);
    }

    private String group(AlarmTold a) {
        RuleTold rule = rules.get(a.rule);
        return ((mask & 1) == 0 ? "-" : sites.get(a.source)) + " " + ((mask & 2) == 0 ? "-" : a.rule) + " "
            + ((mask & 4) == 0 ? "-" : rule.grade);
    }

    private int reason(String group) {
        boolean open = false;
        int last = 0;
        for (LetterTold l : letters) {
            if (l.group.equals(group)) {
                open = l.why != 4;
                last = Math.max(last, Math.max(l.tick, l.answeredAt));
            }
        }
        boolean early = false;
        boolean fresh = false;
        boolean clear = false;
        boolean lasts = false;
        for (AlarmTold a : alarms) {
            if (a.group.equals(group)) {
                lasts |= a.ended == 0;
                clear |= clearSince(a) > 0;
                fresh |= fresh(a);
                early |= fresh(a) && clearSince(a) <= now - first;
            }
        }
        if (!open) {
            return early ? 1 : 0;
        }
        return fresh && now >= last + again ? 2 : clear && now >= last + each ? 3 : lasts ? 0 : 4;
    }

    private void send(String group, int why) {
        LetterTold l = new LetterTold();
        l.tick = now;
        l.why = why;
        l.group = group;
        List<Integer> all = new ArrayList<>();
        for (int i = 0; i < alarms.size(); i++) {
            if (alarms.get(i).group.equals(group) && clearSince(alarms.get(i)) > 0) {
                all.add(i);
            }
        }
        for (int i = 0; i < alarms.size(); i++) {
            AlarmTold a = alarms.get(i);
            if (a.group.equals(group) && a.ended > 0 && inLetter(a, a.began, a.ended - 1)
                && !inLetter(a, a.ended, now)) {
                all.add(i);
            }
        }
        l.alarms.addAll(all.subList(0, Math.min(40, all.size())));
        l.row = row(now);
        l.went.add(l.row.isEmpty() ? -2 : l.row.get(0));
        l.wentAt.add(now);
        letters.add(l);
    }

    private void goUp(LetterTold l) {
        int times = l.went.size();
        if (l.answeredAt == 0 && l.went.get(times - 1) != -2 && now >= l.wentAt.get(times - 1) + up) {
            l.went.add(times < l.row.size() ? l.row.get(times) : -2);
            l.wentAt.add(now);
        }
    }

    private List<Integer> row(int t) {
        int[] standsFor = {0, 1, 2, 3, 4, 5, 6, 7};
        for (int[] told : swaps) {
            if (in(t, told[2], told[3])) {
                int kept = standsFor[told[0]];
                standsFor[told[0]] = standsFor[told[1]];
                standsFor[told[1]] = kept;
            }
        }
        List<int[]> awake = new ArrayList<>();
        for (int h = 0; h < hands; h++) {
            int least = 10;
            for (int[] told : shifts) {
                for (int i = 0; i < told[2]; i++) {
                    if (told[0] == standsFor[h] && (told[1] + i) % 48 == t % 48) {
                        least = Math.min(least, told[3]);
                    }
                }
            }
            if (least < 10) {
                awake.add(new int[] {least, h});
            }
        }
        awake.sort((x, y) -> x[0] != y[0] ? x[0] - y[0] : x[1] - y[1]);
        List<Integer> row = new ArrayList<>();
        awake.forEach(x -> row.add(x[1]));
        return row;
    }

    // ------------------------------------------------------------------ what is asked

    int truth(int r, int s) {
        return noRule(r) || noSource(s) ? -2 : now == 0 ? -3 : truths[r][s][now];
    }

    int counts(int r, int s, int what) {
        if (noRule(r) || noSource(s) || !in(what, 0, 2)) {
            return -1;
        }
        return what == 2 ? lasting(r, s) : run(r, s, 1 - what, now);
    }

    int alarm(int i, int what) {
        if (!in(i, 0, alarms.size() - 1) || !in(what, 0, 8)) {
            return -1;
        }
        AlarmTold a = alarms.get(i);
        int inLetters = 0;
        for (LetterTold l : letters) {
            inLetters += l.alarms.contains(i) ? 1 : 0;
        }
        int[] all = {a.rule, a.source, a.began, a.ended, rules.get(a.rule).grade, a.held[now] ? 1 : 0,
            a.silenced[now] ? 1 : 0, clearSince(a), inLetters};
        return all[what];
    }

    int letter(int i, int what) {
        if (!in(i, 0, letters.size() - 1) || !in(what, 0, 8)) {
            return -1;
        }
        LetterTold l = letters.get(i);
        int latest = l.went.size() - 1;
        int[] all = {l.tick, l.alarms.isEmpty() ? -2 : l.alarms.get(0), l.alarms.size(), l.went.get(latest),
            l.wentAt.get(latest), l.answeredBy, l.answeredAt, l.row.size(), l.why == 4 ? 1 : 0};
        return all[what];
    }

    int holds(int i, int k) {
        return in(i, 0, letters.size() - 1) && in(k, 0, letters.get(i).alarms.size() - 1)
            ? letters.get(i).alarms.get(k) : -1;
    }

    int why(int i) {
        return in(i, 0, letters.size() - 1) ? letters.get(i).why : -1;
    }

    int whyNot(int r, int s) {
        if (noRule(r) || noSource(s)) {
            return -1;
        }
        int i = lasting(r, s);
        if (i < 0) {
            return run(r, s, 1, now) > 0 ? 1 : 0;
        }
        AlarmTold a = alarms.get(i);
        return a.held[now] ? 2 : a.silenced[now] ? 3 : fresh(a) ? 5 : 4;
    }

    int awake(int t, int i) {
        if (!in(t, 1, 1000) || i < 0) {
            return -1;
        }
        List<Integer> row = row(t);
        return i < row.size() ? row.get(i) : -2;
    }

    private static boolean went(LetterTold l, int h) {
        return l.went.contains(h) || l.went.contains(-2);
    }

    int answer(int i, int h) {
        if (!in(i, 0, letters.size() - 1) || noHand(h)) {
            return -1;
        }
        LetterTold l = letters.get(i);
        if (!went(l, h)) {
            return -2;
        }
        if (l.answeredAt != 0) {
            return -3;
        }
        l.answeredBy = h;
        l.answeredAt = now + 1;
        return 0;
    }

    int noise(int h) {
        return noHand(h) ? -1 : (int) letters.stream().filter(l -> went(l, h)).count();
    }

    int flap(int r, int n) {
        if (noRule(r) || !in(n, 1, 2000)) {
            return -1;
        }
        int count = 0;
        for (int t = now; t > now - n && t >= 1; t--) {
            for (AlarmTold a : alarms) {
                count += a.rule == r && a.began == t ? 1 : 0;
                count += a.rule == r && a.ended == t ? 1 : 0;
            }
        }
        return count;
    }

    int least(int r, int p) {
        if (noRule(r) || !in(p, 1, 10)) {
            return -1;
        }
        int begun = 0;
        for (int s = 0; s < sites.size(); s++) {
            boolean lasts = false;
            for (int t = 1; t <= now; t++) {
                if (!lasts && run(r, s, 1, t) >= p) {
                    lasts = true;
                    begun++;
                } else if (lasts && run(r, s, 0, t) >= rules.get(r).e) {
                    lasts = false;
                }
            }
        }
        return begun;
    }

    int count(int what) {
        if (!in(what, 0, 8)) {
            return -1;
        }
        int lasting = (int) alarms.stream().filter(a -> a.ended == 0).count();
        int open = (int) letters.stream().filter(l -> l.answeredAt == 0).count();
        int groups = (int) alarms.stream().map(a -> a.group).distinct().count();
        int[] all = {sites.size(), rules.size(), hands, now, alarms.size(), lasting, letters.size(), open, groups};
        return all[what];
    }

    // ------------------------------------------------------------------ the boards

    int keep(int d, int what, int k) {
        if (!in(d, 0, 7) || !in(what, 0, 4)) {
            return -1;
        }
        if (what == 1 && !in(k, 0, alarms.size() - 1) || what >= 3 && noSource(k)) {
            return -1;
        }
        int n = Math.min(60, now);
        if (what == 0) {
            boards[d] = null;
        } else if (what == 1) {
            boards[d] = alarms.get(k);
        } else if (what == 2) {
            boards[d] = Integer.valueOf(k);
        } else if (what == 3) {
            long[] row = new long[n];
            for (int i = 0; i < n; i++) {
                Long v = at(k, now - n + 1 + i);
                row[i] = v == null ? 0 : v;
            }
            boards[d] = row;
        } else {
            boolean[] row = new boolean[n];
            for (int i = 0; i < n; i++) {
                row[i] = at(k, now - n + 1 + i) != null;
            }
            boards[d] = row;
        }
        return 0;
    }

    int make(int d, int what, int n) {
        if (!in(d, 0, 7) || !in(what, 3, 4) || n > 60) {
            return -1;
        }
        if (n < 0) {
            return -14;
        }
        boards[d] = what == 3 ? new long[n] : new boolean[n];
        return 0;
    }

    private static int size(Object row) {
        return row instanceof long[] longs ? longs.length : row instanceof boolean[] bits ? bits.length : -1;
    }

    long element(int d, int i) {
        if (!in(d, 0, 7)) {
            throw new IllegalArgumentException();
        }
        if (!in(i, 0, size(boards[d]) - 1)) {
            throw new IllegalStateException();
        }
        return boards[d] instanceof long[] longs ? longs[i] : ((boolean[]) boards[d])[i] ? 1 : 0;
    }

    int copy(int d, int i, int e, int j, int n) {
        if (!in(d, 0, 7) || !in(e, 0, 7)) {
            return -1;
        }
        if (boards[d] == null || boards[e] == null) {
            return -11;
        }
        if (size(boards[d]) < 0 || boards[d].getClass() != boards[e].getClass()) {
            return -12;
        }
        if (n < 0 || i < 0 || j < 0 || (long) i + n > size(boards[d]) || (long) j + n > size(boards[e])) {
            return -13;
        }
        System.arraycopy(boards[d], i, boards[e], j, n);
        return n;
    }

    private int refusal(int d) {
        return !in(d, 0, 7) ? -1 : boards[d] == null ? -11 : boards[d] instanceof AlarmTold ? 0 : -12;
    }

    int weight(int d) {
        if (refusal(d) != 0) {
            return refusal(d);
        }
        RuleTold rule = rules.get(((AlarmTold) boards[d]).rule);
        int[] more = {0, 100, 100, 1100, 100, 1100, 100};
        return 10 * rule.grade + rule.kind + more[rule.kind];
    }

    int toss(int d) {
        if (refusal(d) != 0) {
            return refusal(d);
        }
        int rule = ((AlarmTold) boards[d]).rule;
        return rules.get(rule).kind == 0 ? -15 : rule;
    }
}
