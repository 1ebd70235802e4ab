import java.util.ArrayList;
import java.util.Collections;
import java.util.HashSet;
import java.util.List;
import java.util.Set;
import java.util.TreeMap;
import java.util.regex.Matcher;
import java.util.regex.Pattern;

/** The document said a second time, slowly and in another way, to hold the class against. */
final class PlainModel {
    private static final int BAD = -1, NO = -2, FULL = -3, NONE = -4, FAR_BAD = -1000000, FAR_NO = -1000002;
    private static final Pattern ITEM = Pattern.compile("([a-z])(\\d{1,3}(?:,\\d{1,3})*);");

    /** What is LAID. */
    static final class Laid {
        final List<int[]> plans = new ArrayList<>();
        final List<int[]> judges = new ArrayList<>();
        int[] purse = {0, 0, 0};
        int coin = 100;
        int[] hours = {0, 0};
        final int[] had = new int[8];
        int leaves;
        int fault = NONE;
    }

    /** What is KEPT. */
    static final class State {
        int[] had = new int[8];
        int[] running = new int[8];
        Set<Integer> left = new HashSet<>();
        int year;
        int brought;

        State copy() {
            State s = new State();
            s.had = had.clone();
            s.running = running.clone();
            s.left = new HashSet<>(left);
            s.year = year;
            s.brought = brought;
            return s;
        }
    }

    private String text = "";
    private Laid laid = new Laid();
    private State state = new State();
    private final List<State> kept = new ArrayList<>();
    private int[] later = new int[24];

    int write(int n, long v) {
        if (n < 1 || n > 8) {
            return BAD;
        }
        if (text.length() + n > 400) {
            return FULL;
        }
        StringBuilder s = new StringBuilder();
        for (int i = 0; i < n; i++) {
            s.insert(0, (char) (v & 255));
            v >>>= 8;
        }
        text += s;
        return text.length();
    }

    int wipe() {
        int was = text.length();
        text = "";
        return was;
    }

    int fault() {
        return read().fault;
    }

    private Laid read() {
        Laid to = new Laid();
        Matcher m = ITEM.matcher(text);
        int at = 0;
        while (at < text.length()) {
            m.region(at, text.length());
            if (!m.lookingAt() || !put(to, m.group(1).charAt(0), m.group(2).split(","))) {
                to.fault = at;
                return to;
            }
            at = m.end();
        }
        return to;
    }

    private static boolean fits(int[] v, int... most) {
        if (v.length != most.length) {
            return false;
        }
        for (int i = 0; i < v.length; i++) {
            if (v[i] > most[i]) {
                return false;
            }
        }
        return true;
    }

    private static boolean put(Laid to, char letter, String[] figures) {
        int[] v = new int[figures.length];
        for (int i = 0; i < v.length; i++) {
            v[i] = Integer.parseInt(figures[i]);
        }
        boolean fine = false;
        if (letter == 'w' && fits(v, 999, 99, 7)) {
            to.plans.add(v);
            fine = to.plans.size() <= 24;
        } else if (letter == 'j' && fits(v, 9, 9, 99)) {
            to.judges.add(v);
            fine = to.judges.size() <= 6;
        } else if (letter == 'p' && fits(v, 24, 24, 24)) {
            to.purse = v;
            fine = v[2] <= v[1];
        } else if (letter == 'c' && fits(v, 999)) {
            to.coin = v[0];
            fine = v[0] > 0;
        } else if (letter == 'h' && fits(v, 99, 99)) {
            to.hours = v;
            fine = true;
        } else if (letter == 'f' && fits(v, 7, 9)) {
            to.had[v[0]] = v[1];
            fine = true;
        } else if (letter == 'l' && fits(v, 9)) {
            to.leaves = v[0];
            fine = true;
        }
        return fine;
    }

    int lay() {
        Laid read = read();
        if (read.fault != NONE) {
            return NO;
        }
        laid = read;
        state = new State();
        state.had = laid.had.clone();
        kept.clear();
        later = new int[24];
        return laid.plans.size();
    }

    private int mark(State s, int i, int j, int d, boolean k) {
        int[] p = laid.plans.get(i);
        int[] g = laid.judges.get(j);
        int had = k ? s.had[p[2]] : 0;
        int noise = (2711 * (24 * (6 * d + j) + i) + 1777) % 7919 % (2 * g[2] + 1) - g[2];
        return p[0] + g[0] * p[1] + 10 * g[1] * had + noise;
    }

    int mark(int plan, int judge, int draw) {
        if (plan < 0 || plan >= laid.plans.size() || judge < 0 || judge >= laid.judges.size() || badDraw(draw)) {
            return BAD;
        }
        return mark(state, plan, judge, draw, true);
    }

    private static boolean badDraw(int d) {
        return d < 0 || d > 99;
    }

    private boolean badPanel(int p) {
        return p < 1 || p >= 1 << laid.judges.size();
    }

    private List<Integer> orderOf(State s, int panel, int d, boolean k) {
        List<Integer> o = new ArrayList<>();
        TreeMap<Integer, Integer> marks = new TreeMap<>();
        for (int i = 0; i < laid.plans.size(); i++) {
            if (!s.left.contains(laid.plans.get(i)[2])) {
                int sum = panel == 0 ? laid.plans.get(i)[0] : 0;
                for (int j = 0; j < laid.judges.size(); j++) {
                    sum += (panel & 1 << j) != 0 ? mark(s, i, j, d, k) : 0;
                }
                marks.put(i, sum);
                o.add(i);
            }
        }
        Collections.sort(o, (a, b) -> marks.get(a).equals(marks.get(b)) ? a - b : marks.get(b) - marks.get(a));
        return o;
    }

    private List<Integer> orderOf(int panel, int d) {
        return orderOf(state, panel, d, true);
    }

    int order(int panel, int draw, int rank) {
        if (badPanel(panel) || badDraw(draw) || rank < -1) {
            return BAD;
        }
        List<Integer> o = orderOf(panel, draw);
        return rank == -1 ? o.size() : rank < o.size() ? o.get(rank) : NONE;
    }

    private boolean badTwo(int p, int d, int q, int e) {
        return p != 0 && badPanel(p) || q != 0 && badPanel(q) || badDraw(d) || badDraw(e);
    }

    private static int pairs(List<Integer> part, List<Integer> b, boolean alike) {
        int n = 0;
        for (int x : part) {
            for (int y : part) {
                if (x < y && (part.indexOf(x) < part.indexOf(y) == b.indexOf(x) < b.indexOf(y)) == alike) {
                    n++;
                }
            }
        }
        return n;
    }

    int tell(int p, int d, int q, int e, int what) {
        if (badTwo(p, d, q, e) || what < 0 || what > 1) {
            return BAD;
        }
        return pairs(orderOf(p, d), orderOf(q, e), what == 0);
    }

    int both(int p, int d, int q, int e, int k, int what) {
        if (badTwo(p, d, q, e) || k < 1 || k > 24 || what < 0 || what > 2) {
            return BAD;
        }
        List<Integer> a = orderOf(p, d);
        int n = Math.min(k, a.size());
        if (what == 0) {
            Set<Integer> s = new HashSet<>(a.subList(0, n));
            s.retainAll(orderOf(q, e).subList(0, n));
            return s.size();
        }
        if (n == 0) {
            return what == 1 ? 0 : 1;
        }
        return lowest((long) n * n, a.size())[what - 1];
    }

    int coin(int p, int d, int q, int e, int what) {
        if (badTwo(p, d, q, e) || what < 0 || what > 1) {
            return BAD;
        }
        List<Integer> a = orderOf(p, d);
        List<Integer> b = orderOf(q, e);
        for (int n = a.size(); n >= 2; n--) {
            for (int f = 0; f + n <= a.size(); f++) {
                List<Integer> part = a.subList(f, f + n);
                if (pairs(part, b, true) <= pairs(part, b, false)) {
                    return what == 0 ? f : n;
                }
            }
        }
        return NONE;
    }

    private static int[] lowest(long above, long below) {
        for (long f = below; f > 1; f--) {
            if (above % f == 0 && below % f == 0) {
                return new int[] {(int) (above / f), (int) (below / f)};
            }
        }
        return new int[] {(int) above, (int) below};
    }

    private static List<Integer> part(List<Integer> o, int from, int n) {
        int a = Math.min(from, o.size());
        return o.subList(a, Math.min(a + n, o.size()));
    }

    private List<Integer> sure(List<Integer> o) {
        return part(o, 0, laid.purse[0]);
    }

    private List<Integer> lot(List<Integer> o) {
        return part(o, laid.purse[0], laid.purse[1]);
    }

    private List<Integer> drawing(List<Integer> o, int z) {
        List<Integer> left = new ArrayList<>(lot(o));
        List<Integer> out = new ArrayList<>();
        for (int t = 1; t <= laid.purse[2] && !left.isEmpty(); t++) {
            out.add(left.remove((z * t + t * t) % left.size()));
        }
        return out;
    }

    int drawn(int panel, int draw, int z, int t) {
        if (badPanel(panel) || badDraw(draw) || z < 0 || z > 9999 || t < 1) {
            return BAD;
        }
        List<Integer> out = drawing(orderOf(panel, draw), z);
        return t > out.size() ? NONE : out.get(t - 1);
    }

    int chance(int panel, int draw, int plan, int which) {
        if (badPanel(panel) || badDraw(draw) || plan < 0 || plan >= laid.plans.size() || which < 0 || which > 1) {
            return BAD;
        }
        List<Integer> o = orderOf(panel, draw);
        if (!o.contains(plan)) {
            return NO;
        }
        int[] r = {0, 1};
        if (sure(o).contains(plan)) {
            r = new int[] {1, 1};
        } else if (lot(o).contains(plan)) {
            r = lowest(drawing(o, 0).size(), lot(o).size());
        }
        return r[which];
    }

    private int worth(List<Integer> plans) {
        int sum = 0;
        for (int i : plans) {
            sum += laid.plans.get(i)[0];
        }
        return sum;
    }

    int brings(int panel, int draw, int what) {
        if (badPanel(panel) || badDraw(draw) || what < 0 || what > 3) {
            return BAD;
        }
        List<Integer> o = orderOf(panel, draw);
        List<Integer> lot = new ArrayList<>(lot(o));
        Collections.sort(lot, (a, b) -> laid.plans.get(a)[0] - laid.plans.get(b)[0]);
        int c = Math.min(laid.purse[2], lot.size());
        int base = worth(sure(o));
        if (what == 0) {
            return base + worth(lot.subList(0, c));
        }
        if (what == 1) {
            return base + worth(lot.subList(lot.size() - c, lot.size()));
        }
        int n = lot.isEmpty() ? 1 : lot.size();
        return lowest((long) base * n + (long) c * worth(lot), n)[what - 2];
    }

    private int costOf(int there, int inLot, int panel) {
        return laid.hours[0] * there + laid.hours[1] * Integer.bitCount(panel) * (there - inLot);
    }

    int cost(int panel, int draw, int what) {
        if (badPanel(panel) || badDraw(draw) || what < 0 || what > 1) {
            return FAR_BAD;
        }
        List<Integer> o = orderOf(panel, draw);
        int cost = costOf(o.size(), lot(o).size(), panel);
        return what == 0 ? cost : (sure(o).size() + drawing(o, 7).size()) * laid.coin - cost;
    }

    int line(int panel, int draw, int n, int what) {
        if (badPanel(panel) || badDraw(draw) || n < 0 || n > 24 || what < 0 || what > 3) {
            return FAR_BAD;
        }
        List<Integer> o = orderOf(panel, draw);
        if (n > o.size()) {
            return FAR_NO;
        }
        int[] best = null;
        for (int a = 0; a <= n; a++) {
            for (int b = 0; a + b <= o.size(); b++) {
                int c = n - a;
                if (b < c || c == 0 && b > 0) {
                    continue;
                }
                int[] r = {(worth(part(o, 0, a)) - costOf(o.size(), b, panel)), 1};
                if (b > 0) {
                    r = lowest((long) r[0] * b + (long) c * worth(part(o, a, b)), b);
                }
                if (best == null || (long) r[0] * best[3] > (long) best[2] * r[1]) {
                    best = new int[] {a, b, r[0], r[1]};
                }
            }
        }
        return best[what];
    }

    int even(int panel) {
        if (badPanel(panel)) {
            return BAD;
        }
        int there = orderOf(panel, 0).size();
        for (int n = 0; n <= there; n++) {
            if (n * laid.coin - costOf(there, 0, panel) >= 0) {
                return n;
            }
        }
        return NONE;
    }

    int later(int plan, int v) {
        if (plan < 0 || plan >= laid.plans.size() || v < 0 || v > 999) {
            return BAD;
        }
        int was = later[plan];
        later[plan] = v;
        return was;
    }

    int hair(int panel, int draw, int n, int h) {
        if (badPanel(panel) || badDraw(draw) || n < 1 || n > 12 || h < 1 || h > 12) {
            return FAR_BAD;
        }
        List<Integer> o = orderOf(panel, draw);
        if (n - h < 0 || n + h - 1 >= o.size()) {
            return FAR_NO;
        }
        int sum = 0;
        for (int i = 0; i < h; i++) {
            sum += later[o.get(n - 1 - i)] - later[o.get(n + i)];
        }
        return sum;
    }

    int golden(int judge, int panel, int n, int draws, int what) {
        if (judge < 0 || judge >= laid.judges.size() || badPanel(panel) || n < 1 || n > 23 || draws < 1
                || draws > 100 || what < 0 || what > 1) {
            return BAD;
        }
        int[] found = {0, 0};
        for (int d = 0; d < draws; d++) {
            List<Integer> all = orderOf(panel, d);
            List<Integer> own = orderOf(1 << judge, d);
            if (all.size() >= n) {
                own.removeAll(all.subList(0, n));
                if (!own.isEmpty()) {
                    found[1]++;
                    found[0] += laid.plans.get(own.get(0))[0] > laid.plans.get(all.get(n - 1))[0] ? 1 : 0;
                }
            }
        }
        return found[what];
    }

    private Set<Integer> pass(State s, int panel, boolean k) {
        List<Integer> o = orderOf(s, panel, s.year % 100, k);
        Set<Integer> paid = new HashSet<>(sure(o));
        paid.addAll(drawing(o, (37 * s.year + 11) % 10000));
        for (int w = 0; w < 8; w++) {
            int there = 0;
            int won = 0;
            for (int i : o) {
                if (laid.plans.get(i)[2] == w) {
                    there++;
                    won += paid.contains(i) ? 1 : 0;
                }
            }
            s.had[w] = Math.min(9, s.had[w] + won);
            s.running[w] = there > 0 && won == 0 ? s.running[w] + 1 : 0;
            if (laid.leaves > 0 && s.running[w] == laid.leaves) {
                s.left.add(w);
            }
        }
        s.brought += worth(new ArrayList<>(paid));
        s.year++;
        return paid;
    }

    int year(int panel) {
        return badPanel(panel) ? BAD : pass(state, panel, true).size();
    }

    int writer(int n, int what) {
        if (n < 0 || n > 7 || what < 0 || what > 2) {
            return BAD;
        }
        return what == 0 ? state.had[n] : what == 1 ? state.running[n] : state.left.contains(n) ? 1 : 0;
    }

    int now(int what) {
        return what == 0 ? state.year : what == 1 ? state.brought : BAD;
    }

    int having(int panel, int n) {
        if (badPanel(panel) || n < 1 || n > 30) {
            return BAD;
        }
        State with = state.copy();
        State without = state.copy();
        int more = 0;
        for (int y = 0; y < n; y++) {
            Set<Integer> paid = pass(with, panel, true);
            paid.removeAll(pass(without, panel, false));
            more += paid.size();
        }
        return more;
    }

    int keep() {
        if (kept.size() == 2) {
            return FULL;
        }
        kept.add(state.copy());
        return kept.size();
    }

    int back() {
        if (kept.isEmpty()) {
            return NO;
        }
        state = kept.remove(kept.size() - 1);
        return kept.size();
    }

    int count(int what) {
        switch (what) {
            case 0: return laid.plans.size();
            case 1: return laid.judges.size();
            case 2: return text.length();
            case 3: return kept.size();
            case 4: return state.left.size();
            default: return BAD;
        }
    }
}
