import java.util.Arrays;

/** Money by lot: plans, judges who mark them, and a purse that pays some by marks and some by lot. */
public final class PursesByLot {
    public static final int BAD = -1, NO = -2, FULL = -3, NONE = -4;

    // Answers that may be below zero by themselves need refusals that lie far off.
    private static final int FAR_BAD = -1000000;
    private static final int FAR_NO = -1000002;

    private static final int MOST_BYTES = 400;
    private static final int MOST_PLANS = 24;
    private static final int MOST_JUDGES = 6;
    private static final int WRITERS = 8;
    private static final int DRAWS = 100;
    private static final int MOST_HAD = 9;
    private static final int MOST_KEPT = 2;
    private static final int MOST_AHEAD = 30;

    private final Script script;
    private final ItemReader reader;
    private Sheet laid;
    private Sheet draft;
    private final int[] laterOf;
    private final Times times;
    private final Times trial;
    private final Times keptFirst;
    private final Times keptSecond;
    private int kept;
    private final Ranking ranking;
    private final Ranking other;
    private final Split split;
    private final Stretch stretch;
    private final Ratio ratio;
    private final Border border;
    private final int[] paidAhead;

    public PursesByLot() {
        script = new Script();
        reader = new ItemReader();
        laid = new Sheet();
        draft = new Sheet();
        laterOf = new int[MOST_PLANS];
        times = new Times();
        trial = new Times();
        keptFirst = new Times();
        keptSecond = new Times();
        kept = 0;
        ranking = new Ranking();
        other = new Ranking();
        split = new Split();
        stretch = new Stretch();
        ratio = new Ratio();
        border = new Border();
        paidAhead = new int[MOST_AHEAD];
    }

    // ---- plans, judges

    public int write(int n, long v) {
        if (!within(n, 1, 8)) {
            return BAD;
        }
        if (script.length + n > MOST_BYTES) {
            return FULL;
        }
        script.append(n, v);
        return script.length;
    }

    public int wipe() {
        int was = script.length;
        script.length = 0;
        return was;
    }

    public int fault() {
        return reader.readAll(script, draft);
    }

    public int lay() {
        if (reader.readAll(script, draft) != NONE) {
            return NO;
        }
        Sheet before = laid;
        laid = draft;
        draft = before;
        times.begin(laid);
        Arrays.fill(laterOf, 0);
        kept = 0;
        return laid.plans;
    }

    public int mark(int plan, int judge, int draw) {
        if (!isPlan(plan) || !isJudge(judge) || !isDraw(draw)) {
            return BAD;
        }
        return laid.markOf(plan, judge, draw, times.hadBy(laid.author[plan]));
    }

    public int order(int panel, int draw, int rank) {
        if (!isPanel(panel) || !isDraw(draw) || rank < -1) {
            return BAD;
        }
        ranking.arrange(laid, times, panel, draw, true);
        return rank == -1 ? ranking.size : ranking.planAt(rank);
    }

    // ---- panels

    public int tell(int p, int d, int q, int e, int what) {
        if (!areTwoOrders(p, d, q, e) || !within(what, 0, 1)) {
            return BAD;
        }
        arrangeTwo(p, d, q, e);
        int alike = stretch.alikePairs(ranking, other);
        return what == 0 ? alike : ranking.size * (ranking.size - 1) / 2 - alike;
    }

    public int both(int p, int d, int q, int e, int k, int what) {
        if (!areTwoOrders(p, d, q, e) || !within(k, 1, MOST_PLANS) || !within(what, 0, 2)) {
            return BAD;
        }
        arrangeTwo(p, d, q, e);
        int first = Math.min(k, ranking.size);
        if (what == 0) {
            return ranking.inFirstOfBoth(other, first);
        }
        ratio.reduce(first * first, ranking.size);
        return what == 1 ? ratio.above : ratio.below;
    }

    public int coin(int p, int d, int q, int e, int what) {
        if (!areTwoOrders(p, d, q, e) || !within(what, 0, 1)) {
            return BAD;
        }
        arrangeTwo(p, d, q, e);
        stretch.findLongest(ranking, other);
        if (stretch.longest == 0) {
            return NONE;
        }
        return what == 0 ? stretch.first : stretch.longest;
    }

    // ---- the purse

    public int drawn(int panel, int draw, int z, int t) {
        if (!isPanel(panel) || !isDraw(draw) || !within(z, 0, 9999) || t < 1) {
            return BAD;
        }
        splitOrder(panel, draw);
        if (t > split.prizes) {
            return NONE;
        }
        split.fillLot(ranking);
        int plan = NONE;
        for (int s = 1; s <= t; s++) {
            plan = split.takeOne(z, s);
        }
        return plan;
    }

    public int chance(int panel, int draw, int plan, int part) {
        if (!isPanel(panel) || !isDraw(draw) || !isPlan(plan) || !within(part, 0, 1)) {
            return BAD;
        }
        splitOrder(panel, draw);
        int rank = ranking.rankOf(plan);
        if (rank == NONE) {
            return NO;
        }
        split.chanceOf(rank, ratio);
        return part == 0 ? ratio.above : ratio.below;
    }

    public int brings(int panel, int draw, int what) {
        if (!isPanel(panel) || !isDraw(draw) || !within(what, 0, 3)) {
            return BAD;
        }
        splitOrder(panel, draw);
        split.weigh(laid, ranking);
        if (what == 0) {
            return split.sureWorth + split.lotWorth(0, split.prizes);
        }
        if (what == 1) {
            return split.sureWorth + split.lotWorth(split.inLot - split.prizes, split.inLot);
        }
        split.meanWorth(ratio);
        return what == 2 ? ratio.above : ratio.below;
    }

    public int cost(int panel, int draw, int what) {
        if (!isPanel(panel) || !isDraw(draw) || !within(what, 0, 1)) {
            return FAR_BAD;
        }
        splitOrder(panel, draw);
        int hours = laid.costOf(ranking.size, split.inLot, Integer.bitCount(panel));
        return what == 0 ? hours : laid.coinEach * (split.sure + split.prizes) - hours;
    }

    public int line(int panel, int draw, int n, int what) {
        if (!isPanel(panel) || !isDraw(draw) || !within(n, 0, MOST_PLANS) || !within(what, 0, 3)) {
            return FAR_BAD;
        }
        ranking.arrange(laid, times, panel, draw, true);
        if (n > ranking.size) {
            return FAR_NO;
        }
        border.findBest(laid, ranking, Integer.bitCount(panel), n);
        if (what == 0) {
            return border.bestSure;
        }
        if (what == 1) {
            return border.bestLot;
        }
        ratio.reduce(border.bestAbove, border.bestBelow);
        return what == 2 ? ratio.above : ratio.below;
    }

    public int even(int panel) {
        if (!isPanel(panel)) {
            return BAD;
        }
        int there = times.takingPart(laid);
        int hours = laid.costOf(there, 0, Integer.bitCount(panel));
        for (int n = 0; n <= there; n++) {
            if (n * laid.coinEach >= hours) {
                return n;
            }
        }
        return NONE;
    }

    public int later(int plan, int v) {
        if (!isPlan(plan) || !within(v, 0, 999)) {
            return BAD;
        }
        int was = laterOf[plan];
        laterOf[plan] = v;
        return was;
    }

    public int hair(int panel, int draw, int n, int h) {
        if (!isPanel(panel) || !isDraw(draw) || !within(n, 1, 12) || !within(h, 1, 12)) {
            return FAR_BAD;
        }
        ranking.arrange(laid, times, panel, draw, true);
        if (h > n || n + h > ranking.size) {
            return FAR_NO;
        }
        return laterOfRanks(n - h, n) - laterOfRanks(n, n + h);
    }

    public int golden(int judge, int panel, int n, int draws, int what) {
        if (!isJudge(judge) || !isPanel(panel) || !within(n, 1, MOST_PLANS - 1)
                || !within(draws, 1, DRAWS) || !within(what, 0, 1)) {
            return BAD;
        }
        if (times.takingPart(laid) <= n) {
            return 0;
        }
        return what == 1 ? draws : rightDraws(judge, panel, n, draws);
    }

    // ---- years

    public int year(int panel) {
        if (!isPanel(panel)) {
            return BAD;
        }
        return Integer.bitCount(passYear(times, panel, true));
    }

    public int writer(int n, int what) {
        if (!within(n, 0, WRITERS - 1) || !within(what, 0, 2)) {
            return BAD;
        }
        if (what == 0) {
            return times.had[n];
        }
        if (what == 1) {
            return times.running[n];
        }
        return times.gone[n] ? 1 : 0;
    }

    public int now(int what) {
        if (!within(what, 0, 1)) {
            return BAD;
        }
        return what == 0 ? times.yearNumber : times.brought;
    }

    public int having(int panel, int n) {
        if (!isPanel(panel) || !within(n, 1, MOST_AHEAD)) {
            return BAD;
        }
        trial.copyFrom(times);
        for (int y = 0; y < n; y++) {
            paidAhead[y] = passYear(trial, panel, true);
        }
        trial.copyFrom(times);
        int more = 0;
        for (int y = 0; y < n; y++) {
            more += Integer.bitCount(paidAhead[y] & ~passYear(trial, panel, false));
        }
        return more;
    }

    public int keep() {
        if (kept >= MOST_KEPT) {
            return FULL;
        }
        keptAt(kept).copyFrom(times);
        kept++;
        return kept;
    }

    public int back() {
        if (kept <= 0) {
            return NO;
        }
        kept--;
        times.copyFrom(keptAt(kept));
        return kept;
    }

    public int count(int what) {
        switch (what) {
            case 0:
                return laid.plans;
            case 1:
                return laid.judges;
            case 2:
                return script.length;
            case 3:
                return kept;
            case 4:
                return times.goneWriters();
            default:
                return BAD;
        }
    }

    // ---- what the calls share

    private static boolean within(int number, int least, int most) {
        return number >= least && number <= most;
    }

    private boolean isPlan(int plan) {
        return plan >= 0 && plan < laid.plans;
    }

    private boolean isJudge(int judge) {
        return judge >= 0 && judge < laid.judges;
    }

    private boolean isPanel(int panel) {
        return panel > 0 && panel < 1 << laid.judges;
    }

    private static boolean isDraw(int draw) {
        return draw >= 0 && draw < DRAWS;
    }

    private boolean areTwoOrders(int p, int d, int q, int e) {
        return (p == 0 || isPanel(p)) && isDraw(d) && (q == 0 || isPanel(q)) && isDraw(e);
    }

    private void arrangeTwo(int p, int d, int q, int e) {
        ranking.arrange(laid, times, p, d, true);
        other.arrange(laid, times, q, e, true);
    }

    private void splitOrder(int panel, int draw) {
        ranking.arrange(laid, times, panel, draw, true);
        split.divide(laid, ranking.size);
    }

    private int laterOfRanks(int from, int behind) {
        int sum = 0;
        for (int r = from; r < behind; r++) {
            int plan = ranking.planAt(r);
            if (isPlan(plan)) {
                sum += laterOf[plan];
            }
        }
        return sum;
    }

    private int rightDraws(int judge, int panel, int n, int draws) {
        int right = 0;
        for (int d = 0; d < draws; d++) {
            ranking.arrange(laid, times, panel, d, true);
            other.arrange(laid, times, 1 << judge, d, true);
            int wanted = other.firstNotAmong(ranking, n);
            if (laid.worthOf(wanted) > laid.worthOf(ranking.planAt(n - 1))) {
                right++;
            }
        }
        return right;
    }

    /** The PLANS that were paid, as bits. */
    private int passYear(Times run, int panel, boolean havingCounts) {
        ranking.arrange(laid, run, panel, run.yearNumber % DRAWS, havingCounts);
        split.divide(laid, ranking.size);
        int paid = split.allPaid(ranking, (37 * run.yearNumber + 11) % 10000);
        run.passWith(laid, paid);
        return paid;
    }

    private Times keptAt(int place) {
        return place == 0 ? keptFirst : keptSecond;
    }

    /** THE TEXT. */
    private static final class Script {
        private final byte[] bytes = new byte[MOST_BYTES];
        private int length;

        private void append(int n, long v) {
            for (int i = n - 1; i >= 0 && length < MOST_BYTES; i--) {
                bytes[length] = (byte) (v >> (8 * i));
                length++;
            }
        }

        /** A byte as 0 to 255, or NONE behind the end. */
        private int byteAt(int place) {
            return place >= 0 && place < length ? bytes[place] & 255 : NONE;
        }
    }

    /** Reads ITEMS; its fields tell the one read last. */
    private static final class ItemReader {
        private static final int MOST_NUMBERS = 3;
        private static final int MOST_FIGURES = 3;

        private int letter;
        private int amount;
        private int first;
        private int second;
        private int third;

        /** Puts what the TEXT tells onto the sheet, as far as it has no FAULT: FAULT, or NONE. */
        private int readAll(Script script, Sheet sheet) {
            sheet.clear();
            int place = 0;
            for (int i = 0; i < MOST_BYTES && place < script.length; i++) {
                int behind = readItem(script, place);
                if (behind == NONE || !sheet.take(this)) {
                    return place;
                }
                place = behind;
            }
            return NONE;
        }

        /** The place behind the ITEM, or NONE if it is not formed as one. */
        private int readItem(Script script, int from) {
            letter = script.byteAt(from);
            amount = 0;
            int place = from + 1;
            for (int i = 0; i < MOST_NUMBERS; i++) {
                place = readNumber(script, place);
                if (place == NONE) {
                    return NONE;
                }
                int sign = script.byteAt(place);
                place++;
                if (sign == ';') {
                    return place;
                }
                if (sign != ',') {
                    return NONE;
                }
            }
            return NONE;
        }

        /** The place behind the number, or NONE if no figure stands there. */
        private int readNumber(Script script, int from) {
            int value = 0;
            int place = from;
            for (int i = 0; i < MOST_FIGURES; i++) {
                int sign = script.byteAt(place);
                if (!within(sign, '0', '9')) {
                    break;
                }
                value = 10 * value + sign - '0';
                place++;
            }
            if (place == from) {
                return NONE;
            }
            addNumber(value);
            return place;
        }

        private void addNumber(int value) {
            if (amount == 0) {
                first = value;
            } else if (amount == 1) {
                second = value;
            } else {
                third = value;
            }
            amount++;
        }
    }

    /** What a TEXT tells: plans, judges, the purse and the rest. */
    private static final class Sheet {
        private int plans;
        private final int[] worth = new int[MOST_PLANS];
        private final int[] safe = new int[MOST_PLANS];
        private final int[] author = new int[MOST_PLANS];
        private int judges;
        private final int[] lean = new int[MOST_JUDGES];
        private final int[] fond = new int[MOST_JUDGES];
        private final int[] rough = new int[MOST_JUDGES];
        private int sure;
        private int inLot;
        private int prizes;
        private int coinEach = 100;
        private int hoursOfWriter;
        private int hoursOfJudge;
        private final int[] hadAtFirst = new int[WRITERS];
        private int patience;

        private void clear() {
            plans = 0;
            judges = 0;
            sure = 0;
            inLot = 0;
            prizes = 0;
            coinEach = 100;
            hoursOfWriter = 0;
            hoursOfJudge = 0;
            Arrays.fill(hadAtFirst, 0);
            patience = 0;
        }

        /** Whether the ITEM is as it should be; only then it stands on the sheet. */
        private boolean take(ItemReader item) {
            switch (item.letter) {
                case 'w':
                    return item.amount == 3 && takePlan(item.first, item.second, item.third);
                case 'j':
                    return item.amount == 3 && takeJudge(item.first, item.second, item.third);
                case 'p':
                    return item.amount == 3 && takePurse(item.first, item.second, item.third);
                case 'c':
                    return item.amount == 1 && takeCoin(item.first);
                case 'h':
                    return item.amount == 2 && takeHours(item.first, item.second);
                case 'f':
                    return item.amount == 2 && takeHad(item.first, item.second);
                case 'l':
                    return item.amount == 1 && takePatience(item.first);
                default:
                    return false;
            }
        }

        private boolean takePlan(int h, int s, int n) {
            if (plans >= MOST_PLANS || h > 999 || s > 99 || n >= WRITERS) {
                return false;
            }
            worth[plans] = h;
            safe[plans] = s;
            author[plans] = n;
            plans++;
            return true;
        }

        private boolean takeJudge(int l, int k, int r) {
            if (judges >= MOST_JUDGES || l > 9 || k > 9 || r > 99) {
                return false;
            }
            lean[judges] = l;
            fond[judges] = k;
            rough[judges] = r;
            judges++;
            return true;
        }

        private boolean takePurse(int a, int b, int c) {
            if (a > MOST_PLANS || b > MOST_PLANS || c > b) {
                return false;
            }
            sure = a;
            inLot = b;
            prizes = c;
            return true;
        }

        private boolean takeCoin(int n) {
            if (n < 1 || n > 999) {
                return false;
            }
            coinEach = n;
            return true;
        }

        private boolean takeHours(int x, int y) {
            if (x > 99 || y > 99) {
                return false;
            }
            hoursOfWriter = x;
            hoursOfJudge = y;
            return true;
        }

        private boolean takeHad(int n, int m) {
            if (n < 0 || n >= WRITERS || m > MOST_HAD) {
                return false;
            }
            hadAtFirst[n] = m;
            return true;
        }

        private boolean takePatience(int f) {
            if (f > 9) {
                return false;
            }
            patience = f;
            return true;
        }

        /** MARK of a PLAN by a JUDGE, both there, for a WRITER who has had so many. */
        private int markOf(int plan, int judge, int draw, int had) {
            if (plan < 0 || plan >= plans || judge < 0 || judge >= judges) {
                return 0;
            }
            int span = 2 * rough[judge] + 1;
            int stir = (2711 * (24 * (6 * draw + judge) + plan) + 1777) % 7919;
            int noise = span > 0 ? stir % span - rough[judge] : 0;
            return worth[plan] + lean[judge] * safe[plan] + 10 * fond[judge] * had + noise;
        }

        private int worthOf(int plan) {
            return plan >= 0 && plan < plans ? worth[plan] : 0;
        }

        /** COST, if so many PLANS take part, so many of them are in THE LOT, and so many JUDGES read. */
        private int costOf(int there, int drawing, int readers) {
            return hoursOfWriter * there + hoursOfJudge * readers * (there - drawing);
        }
    }

    /** What years change; this is what can be KEPT. */
    private static final class Times {
        private final int[] had = new int[WRITERS];
        private final int[] running = new int[WRITERS];
        private final boolean[] gone = new boolean[WRITERS];
        private int yearNumber;
        private int brought;

        private void begin(Sheet sheet) {
            for (int w = 0; w < WRITERS; w++) {
                had[w] = sheet.hadAtFirst[w];
                running[w] = 0;
                gone[w] = false;
            }
            yearNumber = 0;
            brought = 0;
        }

        private void copyFrom(Times from) {
            for (int w = 0; w < WRITERS; w++) {
                had[w] = from.had[w];
                running[w] = from.running[w];
                gone[w] = from.gone[w];
            }
            yearNumber = from.yearNumber;
            brought = from.brought;
        }

        private int hadBy(int w) {
            return w >= 0 && w < WRITERS ? had[w] : 0;
        }

        private boolean isHere(int w) {
            return w >= 0 && w < WRITERS && !gone[w];
        }

        private int takingPart(Sheet sheet) {
            int there = 0;
            for (int i = 0; i < sheet.plans; i++) {
                if (isHere(sheet.author[i])) {
                    there++;
                }
            }
            return there;
        }

        private int goneWriters() {
            int all = 0;
            for (int w = 0; w < WRITERS; w++) {
                if (gone[w]) {
                    all++;
                }
            }
            return all;
        }

        /** The YEAR ends in which these PLANS (bits) were paid. */
        private void passWith(Sheet sheet, int paid) {
            for (int w = 0; w < WRITERS; w++) {
                int own = plansOf(sheet, w);
                int won = Integer.bitCount(own & paid);
                had[w] = Math.min(MOST_HAD, had[w] + won);
                // Who has left has no plan that takes part, so the years running fall to 0 too.
                running[w] = own != 0 && won == 0 ? running[w] + 1 : 0;
                if (sheet.patience > 0 && running[w] >= sheet.patience) {
                    gone[w] = true;
                }
            }
            for (int i = 0; i < sheet.plans; i++) {
                if ((paid >> i & 1) == 1) {
                    brought += sheet.worth[i];
                }
            }
            yearNumber++;
        }

        /** PLANS of a WRITER that take part, as bits. */
        private int plansOf(Sheet sheet, int w) {
            int own = 0;
            for (int i = 0; i < sheet.plans; i++) {
                if (sheet.author[i] == w && isHere(w)) {
                    own |= 1 << i;
                }
            }
            return own;
        }
    }

    /** An ORDER. */
    private static final class Ranking {
        private int size;
        private final int[] plan = new int[MOST_PLANS];
        private final int[] points = new int[MOST_PLANS];
        private final int[] rank = new int[MOST_PLANS];

        /** Panel 0 orders by WORTH. Without havingCounts it is as if K of all JUDGES were 0. */
        private void arrange(Sheet sheet, Times times, int panel, int draw, boolean havingCounts) {
            size = 0;
            Arrays.fill(rank, NONE);
            for (int i = 0; i < sheet.plans; i++) {
                int w = sheet.author[i];
                if (times.isHere(w)) {
                    int had = havingCounts ? times.hadBy(w) : 0;
                    enter(i, panel == 0 ? sheet.worth[i] : panelMark(sheet, i, panel, draw, had));
                }
            }
            for (int r = 0; r < size; r++) {
                int i = plan[r];
                if (i >= 0 && i < MOST_PLANS) {
                    rank[i] = r;
                }
            }
        }

        private static int panelMark(Sheet sheet, int i, int panel, int draw, int had) {
            int sum = 0;
            for (int j = 0; j < sheet.judges; j++) {
                if ((panel >> j & 1) == 1) {
                    sum += sheet.markOf(i, j, draw, had);
                }
            }
            return sum;
        }

        /** Plans come by their numbers, so one with like points goes behind those that are in. */
        private void enter(int i, int gets) {
            if (size >= MOST_PLANS) {
                return;
            }
            int r = size;
            while (r > 0 && points[r - 1] < gets) {
                plan[r] = plan[r - 1];
                points[r] = points[r - 1];
                r--;
            }
            plan[r] = i;
            points[r] = gets;
            size++;
        }

        private int planAt(int place) {
            return place >= 0 && place < size ? plan[place] : NONE;
        }

        private int rankOf(int i) {
            return i >= 0 && i < MOST_PLANS ? rank[i] : NONE;
        }

        /** The rank that the other has for the plan of this rank here. */
        private int rankThere(Ranking there, int place) {
            return there.rankOf(planAt(place));
        }

        private int inFirstOfBoth(Ranking there, int k) {
            int same = 0;
            for (int r = 0; r < k; r++) {
                if (rankThere(there, r) < k) {
                    same++;
                }
            }
            return same;
        }

        private int firstNotAmong(Ranking there, int n) {
            for (int r = 0; r < size; r++) {
                if (rankThere(there, r) >= n) {
                    return planAt(r);
                }
            }
            return NONE;
        }
    }

    /** ALIKE and COIN of two ORDERS. */
    private static final class Stretch {
        private int first;
        private int longest;

        private int alikePairs(Ranking one, Ranking two) {
            int alike = 0;
            for (int r = 1; r < one.size; r++) {
                alike += alikeWith(one, two, 0, r);
            }
            return alike;
        }

        /** Of the ranks from this one to the last before another: how many make an ALIKE pair with that. */
        private static int alikeWith(Ranking one, Ranking two, int from, int last) {
            int alike = 0;
            int lastThere = one.rankThere(two, last);
            for (int r = from; r < last; r++) {
                if (one.rankThere(two, r) < lastThere) {
                    alike++;
                }
            }
            return alike;
        }

        private void findLongest(Ranking one, Ranking two) {
            first = 0;
            longest = 0;
            for (int from = 0; from < one.size; from++) {
                int alike = 0;
                int pairs = 0;
                for (int last = from + 1; last < one.size; last++) {
                    alike += alikeWith(one, two, from, last);
                    pairs += last - from;
                    int ranks = last - from + 1;
                    if (2 * alike <= pairs && ranks > longest) {
                        first = from;
                        longest = ranks;
                    }
                }
            }
        }
    }

    /** THE PURSE over an ORDER: who is PAID, who is in THE LOT, for how many. */
    private static final class Split {
        private int sure;
        private int inLot;
        private int prizes;
        private int sureWorth;
        private int undrawn;
        private final int[] lot = new int[MOST_PLANS];
        private final int[] worths = new int[MOST_PLANS];

        private void divide(Sheet sheet, int there) {
            sure = Math.min(sheet.sure, there);
            inLot = Math.min(sheet.inLot, there - sure);
            prizes = Math.min(sheet.prizes, inLot);
        }

        private void fillLot(Ranking ranking) {
            undrawn = 0;
            for (int r = sure; r < sure + inLot && undrawn < MOST_PLANS; r++) {
                lot[undrawn] = ranking.planAt(r);
                undrawn++;
            }
        }

        /** The t-th drawn; those before it have been taken out already. */
        private int takeOne(int z, int t) {
            if (undrawn <= 0 || undrawn > MOST_PLANS) {
                return NONE;
            }
            int place = Math.floorMod(z * t + t * t, undrawn);
            int plan = lot[place];
            undrawn--;
            for (int i = place; i < undrawn; i++) {
                lot[i] = lot[i + 1];
            }
            return plan;
        }

        /** All that are paid, as bits. */
        private int allPaid(Ranking ranking, int z) {
            int paid = 0;
            for (int r = 0; r < sure; r++) {
                paid |= 1 << ranking.planAt(r);
            }
            fillLot(ranking);
            for (int t = 1; t <= prizes; t++) {
                paid |= 1 << takeOne(z, t);
            }
            return paid;
        }

        private void chanceOf(int rank, Ratio ratio) {
            if (rank < sure) {
                ratio.reduce(1, 1);
            } else if (rank < sure + inLot) {
                ratio.reduce(prizes, inLot);
            } else {
                ratio.reduce(0, 1);
            }
        }

        /** Puts the WORTH of those in THE LOT in a row, the least first. */
        private void weigh(Sheet sheet, Ranking ranking) {
            sureWorth = 0;
            for (int r = 0; r < sure; r++) {
                sureWorth += sheet.worthOf(ranking.planAt(r));
            }
            for (int i = 0; i < inLot && i < MOST_PLANS; i++) {
                int one = sheet.worthOf(ranking.planAt(sure + i));
                int place = i;
                while (place > 0 && worths[place - 1] > one) {
                    worths[place] = worths[place - 1];
                    place--;
                }
                worths[place] = one;
            }
        }

        private int lotWorth(int from, int behind) {
            int sum = 0;
            for (int i = Math.max(0, from); i < behind && i < MOST_PLANS; i++) {
                sum += worths[i];
            }
            return sum;
        }

        private void meanWorth(Ratio ratio) {
            int below = Math.max(1, inLot);
            ratio.reduce(sureWorth * below + prizes * lotWorth(0, inLot), below);
        }
    }

    /** LINE. */
    private static final class Border {
        private int bestSure;
        private int bestLot;
        private int bestAbove;
        private int bestBelow;
        private boolean found;
        private final int[] worthBefore = new int[MOST_PLANS + 1];

        private void findBest(Sheet sheet, Ranking ranking, int readers, int n) {
            sumWorth(sheet, ranking);
            found = false;
            int there = ranking.size;
            for (int a = 0; a <= n; a++) {
                int c = n - a;
                int widest = c == 0 ? 0 : there - a;
                for (int b = c; b <= widest; b++) {
                    int below = Math.max(1, b);
                    int sure = worthOfFirst(a);
                    int mean = sure * below + c * (worthOfFirst(a + b) - sure);
                    offer(a, b, mean - below * sheet.costOf(there, b, readers), below);
                }
            }
        }

        private void sumWorth(Sheet sheet, Ranking ranking) {
            Arrays.fill(worthBefore, 0);
            for (int r = 0; r < ranking.size && r < MOST_PLANS; r++) {
                worthBefore[r + 1] = worthBefore[r] + sheet.worthOf(ranking.planAt(r));
            }
        }

        private int worthOfFirst(int k) {
            return k >= 0 && k <= MOST_PLANS ? worthBefore[k] : 0;
        }

        /** Offers come by the least A, then the least B, so only a greater one takes the place. */
        private void offer(int a, int b, int above, int below) {
            if (found && above * bestBelow <= bestAbove * below) {
                return;
            }
            found = true;
            bestSure = a;
            bestLot = b;
            bestAbove = above;
            bestBelow = below;
        }
    }

    /** A fraction in lowest terms. */
    private static final class Ratio {
        // Far more steps of Euclid than two ints can need.
        private static final int MOST_STEPS = 100;

        private int above;
        private int below;

        /** Over nothing (no plans) it is 0 over 1. */
        private void reduce(int over, int under) {
            if (under <= 0) {
                above = 0;
                below = 1;
                return;
            }
            int common = commonDivisor(Math.abs(over), under);
            above = common > 0 ? over / common : over;
            below = common > 0 ? under / common : under;
        }

        private static int commonDivisor(int a, int b) {
            int big = a;
            int small = b;
            for (int i = 0; i < MOST_STEPS && small != 0; i++) {
                int rest = big % small;
                big = small;
                small = rest;
            }
            return big;
        }
    }
}
