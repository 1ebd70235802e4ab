import java.util.Random;

/** Long runs of calls, mostly sound and now and then wrong, held against the plain model. */
public final class ModelTest {
    private static final int RUNS = 400;
    // A step makes 100 calls at most, and no object is to be used for more than 512.
    private static final int CALLS = 412;
    private static final int[] STRANGE = {-1, -2, 25, 31, 99, 100, 101, 999, 1000, 9999, 10000,
        Integer.MAX_VALUE, Integer.MIN_VALUE};

    private final Check check = new Check();
    private final Random random = new Random(20261116);
    private PursesByLot x;
    private PlainModel m;
    private int calls;

    public static void main(String[] args) {
        ModelTest test = new ModelTest();
        for (int run = 0; run < RUNS && !test.check.failed(); run++) {
            test.oneRun(run);
        }
        test.check.end("ModelTest");
    }

    private void oneRun(int run) {
        check.about("run " + run);
        x = new PursesByLot();
        m = new PlainModel();
        calls = 0;
        while (calls < CALLS && !check.failed()) {
            int which = random.nextInt(60);
            if (calls == 0 || which == 0) {
                newText();
            } else if (which == 1) {
                state();
            } else if (which < 8) {
                years();
            } else if (which < 30) {
                orders();
            } else {
                purse();
            }
        }
    }

    private void due(String call, int got, int want) {
        calls++;
        check.due("call " + calls + " " + call, got, want);
    }

    private int below(int n) {
        return random.nextInt(n);
    }

    /** A number from least to most, now and then one that is next to them or far off. */
    private int number(int least, int most) {
        int way = below(60);
        if (way == 0) {
            return STRANGE[below(STRANGE.length)];
        }
        if (way == 1) {
            return below(2) == 0 ? least - 1 : most + 1;
        }
        return least + below(Math.max(1, most - least + 1));
    }

    private int panel() {
        return number(1, (1 << m.count(1)) - 1);
    }

    private int panelOrNone() {
        return below(4) == 0 ? 0 : panel();
    }

    private int draw() {
        return number(0, 99);
    }

    private int plan() {
        return number(0, m.count(0) - 1);
    }

    private String item(String letter, int... most) {
        StringBuilder s = new StringBuilder(letter);
        for (int i = 0; i < most.length; i++) {
            int v = most[i] < 10 || below(3) > 0 ? below(most[i] + 1) : below(10);
            if (below(700) == 0) {
                v = most[i] + 1;
            }
            s.append(i == 0 ? "" : ",").append(below(9) == 0 && v < 10 ? "00" : "").append(v);
        }
        return s.append(';').toString();
    }

    private String text() {
        StringBuilder s = new StringBuilder();
        int plans = below(3) == 0 ? 24 : below(26);
        int worth = below(2) == 0 ? 999 : 1 + below(99);
        int rough = below(3) == 0 ? 0 : 99;
        for (int i = 0; i < plans; i++) {
            s.append(item("w", worth, 99, 7));
        }
        int judges = below(8) == 0 ? below(8) : 1 + below(6);
        for (int j = 0; j < judges; j++) {
            s.append(item("j", 9, 9, rough));
        }
        if (below(8) > 0) {
            int b = below(13);
            s.append("p" + below(9) + "," + b + "," + below(b + (below(20) == 0 ? 2 : 1)) + ";");
        }
        s.append(below(2) == 0 ? item("c", 999) : "").append(below(3) > 0 ? item("h", 99, 99) : "");
        s.append(below(2) == 0 ? item("h", 9, 20) : "");
        s.append(below(2) == 0 ? item("f", 7, 9) + item("f", 7, 9) : "");
        s.append(below(3) > 0 ? item("l", 9) : "");
        if (s.length() > 0 && below(12) == 0) {
            s.setCharAt(below(s.length()), "wjpchfl0123456789,;x\u00ff".charAt(below(21)));
        }
        return s.toString();
    }

    private void newText() {
        due("wipe", x.wipe(), m.wipe());
        due("count(2)", x.count(2), m.count(2));
        String s = text();
        for (int at = 0; at < s.length(); ) {
            int n = Math.min(8, s.length() - at);
            n = below(10) == 0 ? 1 + below(n) : n;
            long v = below(2) == 0 ? random.nextLong() : 0;
            for (int i = 0; i < n; i++) {
                v = v << 8 | s.charAt(at + i);
            }
            due("write " + s.substring(at, at + n), x.write(n, v), m.write(n, v));
            at += n;
        }
        int n = number(1, 8);
        if (n < 1 || n > 8) {
            due("write " + n, x.write(n, 59), m.write(n, 59));
        }
        due("fault " + s, x.fault(), m.fault());
        due("lay " + s, x.lay(), m.lay());
        state();
    }

    private void state() {
        for (int w = 0; w < 8; w++) {
            int what = number(0, 2);
            due("writer(" + w + "," + what + ")", x.writer(w, what), m.writer(w, what));
        }
        int w = number(0, 7);
        due("writer(" + w + ",0)", x.writer(w, 0), m.writer(w, 0));
        for (int what = -1; what <= 2; what++) {
            due("now(" + what + ")", x.now(what), m.now(what));
        }
        for (int what = -1; what <= 5; what++) {
            due("count(" + what + ")", x.count(what), m.count(what));
        }
    }

    private void years() {
        int p = panel();
        int n = number(1, 30);
        switch (below(6)) {
            case 0:
                due("keep", x.keep(), m.keep());
                break;
            case 1:
                due("back", x.back(), m.back());
                break;
            case 2:
                due("having(" + p + "," + n + ")", x.having(p, n), m.having(p, n));
                break;
            default:
                due("year(" + p + ")", x.year(p), m.year(p));
                n = number(0, 7);
                due("writer(" + n + ",1)", x.writer(n, 1), m.writer(n, 1));
                due("now(1)", x.now(1), m.now(1));
                break;
        }
    }

    private void orders() {
        int p = panelOrNone();
        int q = panelOrNone();
        int d = draw();
        int e = draw();
        String two = p + "," + d + "," + q + "," + e;
        int what = number(0, 1);
        switch (below(5)) {
            case 0:
                int i = plan();
                int j = number(0, m.count(1) - 1);
                due("mark(" + i + "," + j + "," + d + ")", x.mark(i, j, d), m.mark(i, j, d));
                break;
            case 1:
                int r = number(-1, 24);
                due("order(" + p + "," + d + "," + r + ")", x.order(p, d, r), m.order(p, d, r));
                break;
            case 2:
                due("tell(" + two + "," + what + ")", x.tell(p, d, q, e, what), m.tell(p, d, q, e, what));
                break;
            case 3:
                int k = number(1, 24);
                what = number(0, 2);
                due("both(" + two + "," + k + "," + what + ")", x.both(p, d, q, e, k, what),
                    m.both(p, d, q, e, k, what));
                break;
            default:
                due("coin(" + two + "," + what + ")", x.coin(p, d, q, e, what), m.coin(p, d, q, e, what));
                break;
        }
    }

    private void purse() {
        int p = panel();
        int d = draw();
        String order = p + "," + d + ",";
        int what = number(0, 3);
        int n = number(0, 24);
        switch (below(9)) {
            case 0:
                int z = number(0, 9999);
                int t = number(1, 8);
                due("drawn(" + order + z + "," + t + ")", x.drawn(p, d, z, t), m.drawn(p, d, z, t));
                break;
            case 1:
                int i = plan();
                what = number(0, 1);
                due("chance(" + order + i + "," + what + ")", x.chance(p, d, i, what), m.chance(p, d, i, what));
                break;
            case 2:
                due("brings(" + order + what + ")", x.brings(p, d, what), m.brings(p, d, what));
                break;
            case 3:
                what = number(0, 1);
                due("cost(" + order + what + ")", x.cost(p, d, what), m.cost(p, d, what));
                break;
            case 4:
                due("line(" + order + n + "," + what + ")", x.line(p, d, n, what), m.line(p, d, n, what));
                break;
            case 5:
                due("even(" + p + ")", x.even(p), m.even(p));
                break;
            case 6:
                int v = number(0, 999);
                int l = plan();
                due("later(" + l + "," + v + ")", x.later(l, v), m.later(l, v));
                break;
            case 7:
                n = number(1, 12);
                int h = below(2) == 0 ? number(1, 12) : 1 + below(3);
                due("hair(" + order + n + "," + h + ")", x.hair(p, d, n, h), m.hair(p, d, n, h));
                break;
            default:
                int j = number(0, m.count(1) - 1);
                n = number(1, 23);
                int draws = number(1, 100);
                what = number(0, 1);
                due("golden(" + j + "," + p + "," + n + "," + draws + "," + what + ")",
                    x.golden(j, p, n, draws, what), m.golden(j, p, n, draws, what));
                break;
        }
    }
}
