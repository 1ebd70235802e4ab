/** What the tests share: telling a text, comparing answers, ending with the right exit code. */
final class Check {
    private int wrong;
    private int asked;
    private String about = "";

    void about(String what) {
        about = what;
    }

    void due(String call, long got, long want) {
        asked++;
        if (got != want) {
            wrong++;
            System.out.println(about + ": " + call + " answered " + got + ", due is " + want);
        }
    }

    void due(String call, int[] got, int... want) {
        due(call + ", how many", got.length, want.length);
        for (int i = 0; i < got.length && i < want.length; i++) {
            due(call + " [" + i + "]", got[i], want[i]);
        }
    }

    void end(String name) {
        System.out.println(name + ": " + asked + " answers, " + wrong + " wrong");
        if (wrong != 0 || asked == 0) {
            System.exit(1);
        }
    }

    int asked() {
        return asked;
    }

    boolean failed() {
        return wrong != 0;
    }

    /** Writes a text behind what is there, as few bytes as may be at a time or as many. */
    static int tell(PursesByLot x, String text) {
        int answer = 0;
        for (int at = 0; at < text.length(); at += 8) {
            int n = Math.min(8, text.length() - at);
            long v = 0;
            for (int i = 0; i < n; i++) {
                v = v << 8 | text.charAt(at + i);
            }
            answer = x.write(n, v);
        }
        return answer;
    }

    /** A new object on which the text is laid. */
    static PursesByLot laid(String text) {
        PursesByLot x = new PursesByLot();
        tell(x, text);
        if (x.lay() < 0) {
            throw new IllegalArgumentException(text);
        }
        return x;
    }

    /** All plans of an order, the first first. */
    static int[] order(PursesByLot x, int panel, int draw) {
        int[] plans = new int[Math.max(0, x.order(panel, draw, -1))];
        for (int r = 0; r < plans.length; r++) {
            plans[r] = x.order(panel, draw, r);
        }
        return plans;
    }
}
