/** Each promise by numbers worked out by hand: ordinary inputs, edges, wrong inputs. */
public final class PromisesTest {
    private static final int BAD = -1, NO = -2, FULL = -3, NONE = -4, FAR_BAD = -1000000, FAR_NO = -1000002;
    private static final int LEAST = Integer.MIN_VALUE, MOST = Integer.MAX_VALUE;

    // By judge 0 the order is 1 2 3 0, by judge 1 it is 3 1 0 2, by judge 2 (at first) 3 1 2 0.
    private static final String WORLD = "w100,10,0;w200,5,1;w150,0,1;w150,20,2;"
        + "j0,0,0;j5,0,0;j0,9,0;p1,2,1;c50;h3,2;f2,4;l2;";
    private static final String NOISY = "w0,0,0;w0,0,1;w0,0,2;w0,0,3;j0,0,99;j0,0,99;";

    private static final Check check = new Check();

    public static void main(String[] args) {
        newObject();
        write();
        wipe();
        faultInItems();
        faultInText();
        lay();
        layAnew();
        mark();
        order();
        tell();
        both();
        coin();
        drawn();
        chance();
        brings();
        bringsWithoutLot();
        cost();
        line();
        lineEdges();
        even();
        later();
        hair();
        golden();
        year();
        yearEdges();
        writer();
        now();
        having();
        keepAndBack();
        count();
        byWhatWasHad();
        lotOfYears();
        readme();
        check.end("PromisesTest");
    }

    private static void newObject() {
        check.about("promise 1");
        PursesByLot x = new PursesByLot();
        for (int what = 0; what <= 4; what++) {
            check.due("count(" + what + ")", x.count(what), 0);
        }
        check.due("fault", x.fault(), NONE);
        check.due("year", x.now(0), 0);
        check.due("brought", x.now(1), 0);
        for (int w = 0; w < 8; w++) {
            check.due("had", x.writer(w, 0), 0);
            check.due("running", x.writer(w, 1), 0);
            check.due("left", x.writer(w, 2), 0);
        }
        check.due("no judge", x.order(1, 0, -1), BAD);
        check.due("alike", x.tell(0, 0, 0, 0, 0), 0);
        check.due("unlike", x.tell(0, 99, 0, 99, 1), 0);
        check.due("back", x.back(), NO);
        PursesByLot y = Check.laid(WORLD);
        check.due("one's plans", y.count(0), 4);
        check.due("the other's", x.count(0), 0);
    }

    private static void write() {
        check.about("promise 2");
        PursesByLot x = new PursesByLot();
        check.due("n 0", x.write(0, 59), BAD);
        check.due("n 9", x.write(9, 59), BAD);
        check.due("n least", x.write(LEAST, 59), BAD);
        check.due("n most", x.write(MOST, 59), BAD);
        check.due("nothing came", x.count(2), 0);
        check.due("the lowest of v alone", x.write(2, 0xffffffffffff6c39L), 2);
        check.due("a byte", x.write(1, -197L), 3);
        check.due("l9; has no fault", x.fault(), NONE);
        check.due("8 bytes", x.write(8, 0x7731322c332c343bL), 11);
        check.due("w12,3,4; has none", x.fault(), NONE);
        check.due("high bit", x.write(8, Long.MIN_VALUE), 19);
        check.due("a strange byte", x.fault(), 11);
        x.wipe();
        for (int i = 1; i <= 50; i++) {
            check.due("write", x.write(8, 0), 8 * i);
        }
        check.due("401", x.write(1, 0), FULL);
        check.due("BAD is first", x.write(9, 0), BAD);
        check.due("400 are kept", x.count(2), 400);
        x.wipe();
        for (int i = 0; i < 49; i++) {
            x.write(8, 0);
        }
        x.write(1, 0);
        check.due("393 and 8", x.write(8, 0), FULL);
        check.due("nothing came", x.count(2), 393);
        check.due("393 and 7", x.write(7, 0), 400);
    }

    private static void wipe() {
        check.about("promise 3");
        PursesByLot x = Check.laid(WORLD);
        check.due("how long it was", x.wipe(), WORLD.length());
        check.due("again", x.wipe(), 0);
        check.due("bytes", x.count(2), 0);
        check.due("what is laid stays", x.count(0), 4);
        check.due("judges too", x.count(1), 3);
        check.due("fault", x.fault(), NONE);
    }

    private static void faultAt(String text, int want) {
        PursesByLot x = new PursesByLot();
        Check.tell(x, text);
        check.due("fault of " + text, x.fault(), want);
        check.due("lay of " + text, x.lay() == NO ? 1 : 0, want == NONE ? 0 : 1);
    }

    private static void faultInItems() {
        check.about("promise 4");
        String[] fine = {"", "w0,0,0;", "w999,99,7;", "w001,02,007;", "j0,0,0;", "j9,9,99;", "p0,0,0;", "p24,24,24;",
            "p24,3,3;", "p0,24,0;", "c1;", "c999;", "c001;", "h0,0;", "h99,99;", "f0,0;", "f7,9;", "l0;", "l9;",
            "p1,2,1;p2,3,0;", "c1;c2;", "l1;l0;", "f1,1;f1,0;", "h1,1;h0,0;", "f0,3;w1,1,1;"};
        for (String text : fine) {
            faultAt(text, NONE);
        }
        String[] wrong = {"w1,100,0;", "w1,2,8;", "w1,2;", "w1;", "w1,2,3,4;", "w1,2,3,;", "w,1,2;", "w1,,2;", "w;",
            "w", "w1", "w1,", "w1,2,3", "w1,2,3,", "w0001,1,1;", "w1000,1,1;", "w-1,1,1;", "w 1,1,1;", "w1 ,1,1;",
            "w+1,1,1;", "W1,1,1;", "j10,0,0;", "j0,10,0;", "j0,0,100;", "j0,0;", "j0,0,0,0;", "p25,0,0;", "p0,25,0;",
            "p0,25,25;", "p0,1,2;", "p0,0,1;", "p1,1;", "p1;", "c0;", "c000;", "c1000;", "c1,1;", "c;", "h100,0;",
            "h0,100;", "h1;", "h1,1,1;", "f8,0;", "f0,10;", "f1;", "f1,1,1;", "l10;", "l1,1;", "l;", "x1;", ";", ",",
            "1;", "\u0000", "\u00ff1;", "l1:", "l1/;", "l:;"};
        for (String text : wrong) {
            faultAt(text, 0);
            faultAt("l1;" + text, 3);
        }
    }

    private static void faultInText() {
        check.about("promise 4, whole texts");
        faultAt("w1,1,1;;", 7);
        faultAt("w1,1,1;\n", 7);
        faultAt("w1,1,1;w1,1,1", 7);
        faultAt("c5;p0,1,2;x;", 3);
        faultAt("c5;w1,2,8;p0,1,2;", 3);
        faultAt("w1,1,1;".repeat(24), NONE);
        faultAt("w1,1,1;".repeat(25), 168);
        faultAt("l1;" + "w1,1,1;".repeat(24) + "l1;w1,1,1;", 174);
        faultAt("j1,1,1;".repeat(6), NONE);
        faultAt("j1,1,1;".repeat(7), 42);
        faultAt("l1;".repeat(133), NONE);
        faultAt("l1;".repeat(133) + "l", 399);
    }

    private static void lay() {
        check.about("promise 5");
        PursesByLot x = new PursesByLot();
        Check.tell(x, WORLD);
        check.due("nothing is laid yet", x.count(0), 0);
        check.due("lay", x.lay(), 4);
        check.due("judges", x.count(1), 3);
        check.due("the text stays", x.count(2), WORLD.length());
        check.due("had", x.writer(2, 0), 4);
        Check.tell(x, "w");
        check.due("a fault", x.lay(), NO);
        check.due("what was laid stays", x.count(0), 4);
        check.due("order", Check.order(x, 1, 0), 1, 2, 3, 0);
        x.wipe();
        check.due("an empty one", x.lay(), 0);
        check.due("no plans", x.count(0), 0);
        check.due("no judges", x.count(1), 0);
        check.due("nothing had", x.writer(2, 0), 0);
    }

    private static void layAnew() {
        check.about("promise 5, anew");
        PursesByLot x = Check.laid(WORLD);
        x.later(1, 5);
        x.year(1);
        x.keep();
        x.year(1);
        check.due("one has left", x.count(4), 1);
        Check.tell(x, "x");
        check.due("a fault", x.lay(), NO);
        check.due("nothing changes: left", x.count(4), 1);
        check.due("nothing changes: kept", x.count(3), 1);
        check.due("nothing changes: year", x.now(0), 2);
        check.due("nothing changes: later", x.later(1, 5), 5);
        x.wipe();
        Check.tell(x, WORLD);
        check.due("lay", x.lay(), 4);
        check.due("later", x.later(1, 0), 0);
        check.due("brought", x.now(1), 0);
        check.due("year", x.now(0), 0);
        check.due("kept", x.count(3), 0);
        check.due("left", x.count(4), 0);
        check.due("running", x.writer(0, 1), 0);
        check.due("had", x.writer(1, 0), 0);
        check.due("had as told", x.writer(2, 0), 4);
        x.wipe();
        Check.tell(x, "w7,7,7;j0,0,0;");
        x.lay();
        check.due("no purse", x.brings(1, 0, 1), 0);
        check.due("no hours", x.cost(1, 0, 0), 0);
        x.wipe();
        Check.tell(x, "w7,7,7;j0,0,0;h0,1;");
        x.lay();
        check.due("no lot", x.cost(1, 0, 0), 1);
        check.due("no prizes", x.drawn(1, 0, 0, 1), NONE);
        x.wipe();
        Check.tell(x, "w7,7,7;j0,0,0;p5,0,0;p1,0,0;h5,5;h1,1;f7,3;f7,2;c9;c8;");
        x.lay();
        check.due("the last coin, hours and purse", x.cost(1, 0, 1), 8 - 2);
        check.due("the last had", x.writer(7, 0), 2);
        x.wipe();
        Check.tell(x, "w7,7,7;j0,0,0;p1,0,0;");
        x.lay();
        check.due("100 without a coin", x.cost(1, 0, 1), 100);
    }

    private static void mark() {
        check.about("promise 6");
        PursesByLot x = Check.laid(WORLD);
        check.due("worth", x.mark(1, 0, 0), 200);
        check.due("safe", x.mark(3, 1, 99), 250);
        check.due("had", x.mark(3, 2, 0), 510);
        check.due("none had", x.mark(1, 2, 0), 200);
        check.due("plan 4", x.mark(4, 0, 0), BAD);
        check.due("plan -1", x.mark(-1, 0, 0), BAD);
        check.due("judge 3", x.mark(0, 3, 0), BAD);
        check.due("judge -1", x.mark(0, -1, 0), BAD);
        check.due("draw 100", x.mark(0, 0, 100), BAD);
        check.due("draw -1", x.mark(0, 0, -1), BAD);
        check.due("most", x.mark(MOST, MOST, MOST), BAD);
        PursesByLot y = Check.laid(NOISY);
        check.due("noise of 0", y.mark(0, 0, 0), 86);
        check.due("noise of 1", y.mark(1, 0, 0), 11);
        check.due("noise of 2", y.mark(2, 0, 0), -64);
        check.due("noise of 3", y.mark(3, 0, 0), -98);
        check.due("noise in draw 1", y.mark(0, 0, 1), 51);
        check.due("noise of judge 1", y.mark(0, 1, 0), 7);
        PursesByLot z = Check.laid("w999,99,0;j9,9,1;f0,9;");
        check.due("all together", z.mark(0, 0, 0), 999 + 891 + 810 + 1777 % 3 - 1);
    }

    private static void order() {
        check.about("promise 7");
        PursesByLot x = Check.laid(WORLD);
        check.due("how many", x.order(1, 0, -1), 4);
        check.due("judge 0", Check.order(x, 1, 0), 1, 2, 3, 0);
        check.due("judge 1", Check.order(x, 2, 0), 3, 1, 0, 2);
        check.due("judge 2", Check.order(x, 4, 99), 3, 1, 2, 0);
        // 250, 425, 300, 400
        check.due("judges 0 and 1", Check.order(x, 3, 0), 1, 3, 2, 0);
        check.due("rank 4", x.order(1, 0, 4), NONE);
        check.due("rank most", x.order(7, 99, MOST), NONE);
        check.due("rank -2", x.order(1, 0, -2), BAD);
        check.due("panel 0", x.order(0, 0, 0), BAD);
        check.due("panel 8", x.order(8, 0, 0), BAD);
        check.due("panel -1", x.order(-1, 0, 0), BAD);
        check.due("draw 100", x.order(1, 100, 0), BAD);
        check.due("draw -1", x.order(1, -1, 0), BAD);
        check.due("BAD before NONE", x.order(1, 100, 99), BAD);
        check.due("by noise", Check.order(Check.laid(NOISY), 1, 0), 0, 1, 2, 3);
        PursesByLot six = Check.laid("w1,0,0;" + "j0,0,0;".repeat(6));
        check.due("panel 63", six.order(63, 0, 0), 0);
        check.due("panel 64", six.order(64, 0, 0), BAD);
        PursesByLot none = Check.laid("j0,0,0;");
        check.due("no plans", none.order(1, 0, -1), 0);
        check.due("no first", none.order(1, 0, 0), NONE);
    }

    private static void tell() {
        check.about("promise 8");
        PursesByLot x = Check.laid(WORLD);
        check.due("alike", x.tell(1, 0, 2, 0, 0), 3);
        check.due("unlike", x.tell(1, 0, 2, 0, 1), 3);
        check.due("alike 1 2", x.tell(2, 0, 4, 0, 0), 5);
        check.due("unlike 1 2", x.tell(2, 0, 4, 0, 1), 1);
        check.due("by worth", x.tell(0, 0, 1, 0, 0), 6);
        check.due("by worth, the other", x.tell(2, 0, 0, 0, 1), 3);
        check.due("what 2", x.tell(1, 0, 1, 0, 2), BAD);
        check.due("what -1", x.tell(1, 0, 1, 0, -1), BAD);
        check.due("p 8", x.tell(8, 0, 1, 0, 0), BAD);
        check.due("p -1", x.tell(-1, 0, 1, 0, 0), BAD);
        check.due("q 8", x.tell(1, 0, 8, 0, 0), BAD);
        check.due("q -1", x.tell(1, 0, -1, 0, 0), BAD);
        check.due("d 100", x.tell(0, 100, 1, 0, 0), BAD);
        check.due("d -1", x.tell(1, -1, 1, 0, 0), BAD);
        check.due("e 100", x.tell(1, 0, 0, 100, 0), BAD);
        check.due("e -1", x.tell(1, 0, 1, -1, 0), BAD);
    }

    private static void both() {
        check.about("promise 9");
        PursesByLot x = Check.laid(WORLD);
        int[][] want = {{1, 0, 1, 4}, {2, 1, 1, 1}, {3, 2, 9, 4}, {4, 4, 4, 1}, {5, 4, 4, 1}, {24, 4, 4, 1}};
        for (int[] w : want) {
            for (int what = 0; what < 3; what++) {
                check.due("k " + w[0] + " what " + what, x.both(1, 0, 2, 0, w[0], what), w[what + 1]);
            }
        }
        check.due("by worth", x.both(0, 0, 1, 0, 1, 0), 1);
        check.due("k 0", x.both(1, 0, 2, 0, 0, 0), BAD);
        check.due("k 25", x.both(1, 0, 2, 0, 25, 0), BAD);
        check.due("what 3", x.both(1, 0, 2, 0, 1, 3), BAD);
        check.due("what -1", x.both(1, 0, 2, 0, 1, -1), BAD);
        check.due("p 8", x.both(8, 0, 2, 0, 1, 0), BAD);
        check.due("q 8", x.both(1, 0, 8, 0, 1, 0), BAD);
        check.due("d 100", x.both(1, 100, 2, 0, 1, 0), BAD);
        check.due("e 100", x.both(1, 0, 2, 100, 1, 0), BAD);
        PursesByLot none = Check.laid("j0,0,0;");
        check.due("no plans", none.both(1, 0, 0, 0, 24, 0), 0);
        check.due("no plans, above", none.both(1, 0, 0, 0, 24, 1), 0);
        check.due("no plans, below", none.both(1, 0, 0, 0, 24, 2), 1);
    }

    private static void coin() {
        check.about("promise 10");
        PursesByLot x = Check.laid(WORLD);
        check.due("all", x.coin(1, 0, 2, 0, 0), 0);
        check.due("all, how many", x.coin(1, 0, 2, 0, 1), 4);
        check.due("the last two", x.coin(2, 0, 4, 0, 0), 2);
        check.due("two", x.coin(2, 0, 4, 0, 1), 2);
        check.due("none", x.coin(0, 0, 1, 0, 0), NONE);
        check.due("none, how many", x.coin(1, 5, 1, 6, 1), NONE);
        // By worth 0 1 2 3 4, by the judge 1 0 2 4 3: two stretches of two.
        PursesByLot two = Check.laid("w50,0,0;w40,20,1;w30,0,2;w20,0,3;w10,15,4;j1,0,0;");
        check.due("its order", Check.order(two, 1, 0), 1, 0, 2, 4, 3);
        check.due("of several the first", two.coin(0, 0, 1, 0, 0), 0);
        check.due("of several, how many", two.coin(0, 0, 1, 0, 1), 2);
        check.due("what 2", x.coin(1, 0, 2, 0, 2), BAD);
        check.due("what -1", x.coin(1, 0, 2, 0, -1), BAD);
        check.due("BAD before NONE", x.coin(0, 0, 1, 100, 0), BAD);
        check.due("d", x.coin(0, -1, 1, 0, 0), BAD);
        check.due("p", x.coin(9, 0, 1, 0, 0), BAD);
        check.due("q", x.coin(1, 0, LEAST, 0, 0), BAD);
        check.due("one plan", Check.laid("w1,1,1;j0,0,0;").coin(0, 0, 1, 0, 0), NONE);
    }

    private static void drawn() {
        check.about("promise 11");
        PursesByLot x = Check.laid(WORLD);
        check.due("z 0", x.drawn(1, 0, 0, 1), 3);
        check.due("z 1", x.drawn(1, 0, 1, 1), 2);
        check.due("z 9999", x.drawn(2, 0, 9999, 1), 1);
        check.due("not so many", x.drawn(1, 0, 0, 2), NONE);
        check.due("t most", x.drawn(1, 0, 0, MOST), NONE);
        check.due("t 0", x.drawn(1, 0, 0, 0), BAD);
        check.due("t least", x.drawn(1, 0, 0, LEAST), BAD);
        check.due("z -1", x.drawn(1, 0, -1, 1), BAD);
        check.due("z 10000", x.drawn(1, 0, 10000, 1), BAD);
        check.due("panel 0", x.drawn(0, 0, 0, 1), BAD);
        check.due("draw 100", x.drawn(1, 100, 0, 9), BAD);
        // Order 0 1 2 3 4 5, in the lot 1 2 3 4; by z 3: place 4 % 4, 10 % 3, 18 % 2, 28 % 1.
        PursesByLot y = Check.laid("w6,0,0;w5,0,0;w4,0,0;w3,0,0;w2,0,0;w1,0,0;j0,0,0;p1,4,4;");
        check.due("first", y.drawn(1, 0, 3, 1), 1);
        check.due("second", y.drawn(1, 0, 3, 2), 3);
        check.due("third", y.drawn(1, 0, 3, 3), 2);
        check.due("fourth", y.drawn(1, 0, 3, 4), 4);
        check.due("no fifth", y.drawn(1, 0, 3, 5), NONE);
        PursesByLot few = Check.laid("w6,0,0;w5,0,0;w4,0,0;j0,0,0;p1,9,9;");
        check.due("no more than are in it", few.drawn(1, 0, 3, 3), NONE);
        check.due("the last", few.drawn(1, 0, 3, 2) + few.drawn(1, 0, 3, 1), 3);
        check.due("no lot", Check.laid("w1,0,0;j0,0,0;p1,5,5;").drawn(1, 0, 0, 1), NONE);
    }

    private static void chanceIs(PursesByLot x, int panel, int plan, int above, int below) {
        check.due("plan " + plan + " above", x.chance(panel, 0, plan, 0), above);
        check.due("plan " + plan + " below", x.chance(panel, 0, plan, 1), below);
    }

    private static void chance() {
        check.about("promise 12");
        PursesByLot x = Check.laid(WORLD);
        chanceIs(x, 1, 1, 1, 1);
        chanceIs(x, 1, 2, 1, 2);
        chanceIs(x, 1, 3, 1, 2);
        chanceIs(x, 1, 0, 0, 1);
        check.due("plan 4", x.chance(1, 0, 4, 0), BAD);
        check.due("plan -1", x.chance(1, 0, -1, 0), BAD);
        check.due("part 2", x.chance(1, 0, 0, 2), BAD);
        check.due("part -1", x.chance(1, 0, 0, -1), BAD);
        check.due("panel 8", x.chance(8, 0, 0, 0), BAD);
        check.due("panel 0", x.chance(0, 0, 0, 0), BAD);
        check.due("draw 100", x.chance(1, 100, 0, 0), BAD);
        x.year(1);
        x.year(1);
        check.due("who has left", x.chance(1, 0, 0, 0), NO);
        check.due("BAD before NO", x.chance(1, 0, 0, 2), BAD);
        PursesByLot y = Check.laid("w6,0,0;w5,0,0;w4,0,0;w3,0,0;w2,0,0;w1,0,0;j0,0,0;p0,6,4;");
        chanceIs(y, 1, 5, 2, 3);
        PursesByLot few = Check.laid("w6,0,0;w5,0,0;w4,0,0;j0,0,0;p0,9,4;");
        chanceIs(few, 1, 2, 1, 1);
        PursesByLot nobody = Check.laid("w6,0,0;w5,0,0;j0,0,0;p0,2,0;");
        chanceIs(nobody, 1, 0, 0, 1);
    }

    private static void bringsAre(PursesByLot x, int panel, int... want) {
        for (int what = 0; what < want.length; what++) {
            check.due("panel " + panel + " what " + what, x.brings(panel, 0, what), want[what]);
        }
    }

    private static void brings() {
        check.about("promise 13");
        PursesByLot x = Check.laid(WORLD);
        bringsAre(x, 1, 350, 350, 350, 1);
        bringsAre(x, 2, 250, 350, 300, 1);
        check.due("what 4", x.brings(1, 0, 4), BAD);
        check.due("what -1", x.brings(1, 0, -1), BAD);
        check.due("panel 0", x.brings(0, 0, 0), BAD);
        check.due("panel 8", x.brings(8, 0, 0), BAD);
        check.due("draw -1", x.brings(1, -1, 0), BAD);
        check.due("draw 100", x.brings(1, 100, 0), BAD);
        // In the lot 20, 10, 70, 5 by safety, for two: 105 by 2.
        PursesByLot y = Check.laid("w9,99,0;w20,90,0;w10,80,0;w70,60,0;w5,50,0;w300,0,0;j9,0,0;p1,4,2;");
        bringsAre(y, 1, 9 + 15, 9 + 90, 123, 2);
    }

    private static void bringsWithoutLot() {
        check.about("promise 13, edges");
        bringsAre(Check.laid("w9,0,0;w5,0,0;j0,0,0;p1,0,0;"), 1, 9, 9, 9, 1);
        bringsAre(Check.laid("w9,0,0;w5,0,0;j0,0,0;p1,1,0;"), 1, 9, 9, 9, 1);
        bringsAre(Check.laid("w9,0,0;w5,0,0;j0,0,0;p24,24,24;"), 1, 14, 14, 14, 1);
        bringsAre(Check.laid("w9,0,0;w5,0,0;j0,0,0;"), 1, 0, 0, 0, 1);
        bringsAre(Check.laid("j0,0,0;p1,2,1;"), 1, 0, 0, 0, 1);
    }

    private static void cost() {
        check.about("promise 14");
        PursesByLot x = Check.laid(WORLD);
        check.due("cost", x.cost(1, 0, 0), 16);
        check.due("gives", x.cost(1, 0, 1), 84);
        check.due("cost of three", x.cost(7, 99, 0), 24);
        check.due("gives of three", x.cost(7, 99, 1), 76);
        check.due("what 2", x.cost(1, 0, 2), FAR_BAD);
        check.due("what -1", x.cost(1, 0, -1), FAR_BAD);
        check.due("panel 0", x.cost(0, 0, 0), FAR_BAD);
        check.due("panel 8", x.cost(8, 0, 1), FAR_BAD);
        check.due("draw 100", x.cost(1, 100, 1), FAR_BAD);
        x.year(1);
        x.year(1);
        check.due("without who has left", x.cost(1, 0, 0), 9 + 2);
        PursesByLot y = Check.laid("w1,0,0;w1,0,0;j0,0,0;p0,1,0;h99,99;c1;");
        check.due("below zero", y.cost(1, 0, 1), -297);
        PursesByLot few = Check.laid("w1,0,0;w1,0,0;w1,0,0;j0,0,0;p1,9,5;h0,1;c10;");
        check.due("a lot of two", few.cost(1, 0, 0), 1);
        check.due("three paid", few.cost(1, 0, 1), 29);
    }

    private static void lineIs(String text, int n, int... want) {
        PursesByLot x = Check.laid(text);
        for (int what = 0; what < 4; what++) {
            check.due(text + " n " + n + " what " + what, x.line(1, 0, n, what), want[what]);
        }
    }

    private static void line() {
        check.about("promise 15");
        String three = "w9,0,0;w6,0,1;w6,0,2;j0,0,0;p3,0,0;h1,2;";
        lineIs(three, 0, 0, 0, -9, 1);
        lineIs(three, 1, 0, 3, 4, 1);
        lineIs(three, 2, 0, 3, 11, 1);
        lineIs(three, 3, 0, 3, 18, 1);
        lineIs("w9,0,0;w4,0,1;j0,0,0;h0,3;", 1, 0, 2, 13, 2);
        lineIs("w100,0,0;w1,0,1;w1,0,2;w1,0,3;j0,0,0;h0,1;", 2, 1, 3, 100, 1);
        lineIs("w100,0,0;w1,0,1;w1,0,2;j0,0,0;h0,1;", 2, 0, 2, 100, 1);
        lineIs("w5,0,0;w5,0,1;j0,0,0;", 1, 0, 1, 5, 1);
        lineIs("w1,0,0;w2,9,1;j9,0,0;", 1, 0, 1, 2, 1);
        lineIs("w9,9,0;w2,0,0;w2,0,0;j9,0,0;h0,1;", 1, 0, 1, 7, 1);
        // No lot reaches beyond the last plan, though it would cost less.
        lineIs("w0,0,0;w0,0,0;w0,0,0;j0,0,0;h0,1;", 2, 0, 3, 0, 1);
        // Below zero in lowest terms: a lot of two for one: 5 by 2 less 4.
        lineIs("w3,0,0;w2,0,1;j0,0,0;h2,4;", 1, 0, 2, -3, 2);
    }

    private static void lineEdges() {
        check.about("promise 15, edges");
        PursesByLot x = Check.laid(WORLD);
        check.due("n 4", x.line(1, 0, 4, 0), 0);
        check.due("n 5", x.line(1, 0, 5, 0), FAR_NO);
        check.due("n 24", x.line(1, 0, 24, 3), FAR_NO);
        check.due("n 25", x.line(1, 0, 25, 0), FAR_BAD);
        check.due("n -1", x.line(1, 0, -1, 0), FAR_BAD);
        check.due("what 4", x.line(1, 0, 1, 4), FAR_BAD);
        check.due("what -1", x.line(1, 0, 9, -1), FAR_BAD);
        check.due("panel 0", x.line(0, 0, 1, 0), FAR_BAD);
        check.due("panel 8", x.line(8, 0, 1, 0), FAR_BAD);
        check.due("draw 100", x.line(1, 100, 1, 0), FAR_BAD);
        x.year(1);
        x.year(1);
        check.due("fewer there", x.line(1, 0, 4, 0), FAR_NO);
        check.due("three there", x.line(1, 0, 3, 1), 3);
        PursesByLot none = Check.laid("j0,0,0;h9,9;");
        check.due("nothing for none", none.line(1, 0, 0, 2), 0);
        check.due("nothing for none, below", none.line(1, 0, 0, 3), 1);
        check.due("one of none", none.line(1, 0, 1, 2), FAR_NO);
        PursesByLot all = Check.laid("w1,1,1;".repeat(24) + "j0,0,0;");
        check.due("n 24 of 24", all.line(1, 0, 24, 1), 24);
        check.due("n 24 of 24, above", all.line(1, 0, 24, 2), 24);
    }

    private static void even() {
        check.about("promise 16");
        PursesByLot x = Check.laid("w1,0,0;w1,0,1;j0,0,0;j0,0,0;p0,2,1;c10;h5,5;");
        check.due("just so", x.even(1), 2);
        check.due("never", x.even(3), NONE);
        check.due("panel 0", x.even(0), BAD);
        check.due("panel 4", x.even(4), BAD);
        check.due("panel -1", x.even(-1), BAD);
        PursesByLot near = Check.laid("w1,0,0;w1,0,1;w1,0,1;j0,0,0;c10;h7,0;");
        check.due("21 by 10", near.even(1), 3);
        check.due("for nothing", Check.laid("w1,0,0;j0,0,0;").even(1), 0);
        check.due("100 without a coin", Check.laid("w1,0,0;j0,0,0;h99,1;").even(1), 1);
        check.due("no plans", Check.laid("j0,0,0;h99,1;").even(1), 0);
        PursesByLot leaving = Check.laid("w9,0,0;w1,0,1;w1,0,2;j0,0,0;p1,0,0;c1;h1,0;l1;");
        check.due("three there", leaving.even(1), 3);
        leaving.year(1);
        check.due("one there", leaving.even(1), 1);
    }

    private static void later() {
        check.about("promise 17");
        PursesByLot x = Check.laid(WORLD);
        check.due("at first", x.later(3, 999), 0);
        check.due("then", x.later(3, 0), 999);
        check.due("at last", x.later(3, 1), 0);
        check.due("another", x.later(0, 1), 0);
        check.due("v 1000", x.later(3, 1000), BAD);
        check.due("v -1", x.later(3, -1), BAD);
        check.due("plan 4", x.later(4, 0), BAD);
        check.due("plan -1", x.later(-1, 0), BAD);
        check.due("as it was", x.later(3, 7), 1);
        x.keep();
        x.year(1);
        x.year(1);
        check.due("who has left", x.later(0, 2), 1);
        x.back();
        check.due("it is not kept", x.later(0, 3), 2);
    }

    private static void hair() {
        check.about("promise 18");
        PursesByLot x = Check.laid(WORLD);
        for (int i = 0; i < 4; i++) {
            x.later(i, 1 << 2 * i);
        }
        check.due("n 1 h 1", x.hair(1, 0, 1, 1), 4 - 16);
        check.due("n 2 h 1", x.hair(1, 0, 2, 1), 16 - 64);
        check.due("n 3 h 1", x.hair(1, 0, 3, 1), 64 - 1);
        check.due("n 2 h 2", x.hair(1, 0, 2, 2), 4 + 16 - 64 - 1);
        check.due("by judge 1", x.hair(2, 0, 1, 1), 64 - 4);
        check.due("none before", x.hair(1, 0, 1, 2), FAR_NO);
        check.due("none behind", x.hair(1, 0, 4, 1), FAR_NO);
        check.due("one behind", x.hair(1, 0, 3, 2), FAR_NO);
        check.due("n 12", x.hair(1, 0, 12, 12), FAR_NO);
        check.due("n 13", x.hair(1, 0, 13, 1), FAR_BAD);
        check.due("n 0", x.hair(1, 0, 0, 1), FAR_BAD);
        check.due("h 13", x.hair(1, 0, 1, 13), FAR_BAD);
        check.due("h 0", x.hair(1, 0, 1, 0), FAR_BAD);
        check.due("panel 0", x.hair(0, 0, 1, 1), FAR_BAD);
        check.due("draw 100", x.hair(1, 100, 1, 1), FAR_BAD);
        PursesByLot all = Check.laid("w1,1,1;".repeat(24) + "j0,0,0;");
        all.later(0, 999);
        all.later(23, 998);
        check.due("n 12 h 12", all.hair(1, 0, 12, 12), 1);
    }

    private static void golden() {
        check.about("promise 19");
        // Judge 0 orders 1 2 0, judge 1 orders 2 1 0.
        PursesByLot x = Check.laid("w10,0,0;w30,0,1;w20,9,2;j0,0,0;j9,0,0;p1,0,0;l1;");
        check.due("right", x.golden(0, 2, 1, 7, 0), 7);
        check.due("of", x.golden(0, 2, 1, 7, 1), 7);
        check.due("not right", x.golden(1, 1, 1, 5, 0), 0);
        check.due("of 5", x.golden(1, 1, 1, 5, 1), 5);
        check.due("n 2", x.golden(0, 2, 2, 100, 0), 0);
        check.due("n 2 of", x.golden(0, 2, 2, 100, 1), 100);
        check.due("n 3", x.golden(0, 2, 3, 1, 1), 0);
        check.due("n 4", x.golden(0, 2, 4, 1, 0), 0);
        check.due("n 23", x.golden(0, 2, 23, 1, 1), 0);
        check.due("n 24", x.golden(0, 2, 24, 1, 0), BAD);
        check.due("n 0", x.golden(0, 2, 0, 1, 0), BAD);
        check.due("draws 0", x.golden(0, 2, 1, 0, 0), BAD);
        check.due("draws 101", x.golden(0, 2, 1, 101, 0), BAD);
        check.due("judge 2", x.golden(2, 2, 1, 1, 0), BAD);
        check.due("judge -1", x.golden(-1, 2, 1, 1, 0), BAD);
        check.due("panel 0", x.golden(0, 0, 1, 1, 0), BAD);
        check.due("panel 4", x.golden(0, 4, 1, 1, 0), BAD);
        check.due("what 2", x.golden(0, 2, 1, 1, 2), BAD);
        check.due("what -1", x.golden(0, 2, 1, 1, -1), BAD);
        x.year(1);
        check.due("one is there", x.golden(0, 2, 1, 7, 1), 0);
        PursesByLot like = Check.laid("w20,0,0;w20,9,0;j0,0,0;j9,0,0;");
        check.due("like worth is not above", like.golden(0, 2, 1, 3, 0), 0);
        // In draw 0 the noise is 86 and 11, so the better plan comes second.
        PursesByLot noisy = Check.laid("w100,0,0;w101,0,1;j0,0,99;j0,0,0;");
        check.due("first by noise", noisy.order(1, 0, 0), 0);
        check.due("right in draw 0", noisy.golden(1, 1, 1, 1, 0), 1);
    }

    private static void years(PursesByLot x, int panel, int n) {
        for (int y = 0; y < n; y++) {
            check.due("paid", x.year(panel), 2);
        }
    }

    private static void writerIs(PursesByLot x, int n, int had, int running, int left) {
        check.due("writer " + n + " had", x.writer(n, 0), had);
        check.due("writer " + n + " running", x.writer(n, 1), running);
        check.due("writer " + n + " left", x.writer(n, 2), left);
    }

    private static void year() {
        check.about("promise 20");
        PursesByLot x = Check.laid(WORLD);
        check.due("panel 0", x.year(0), BAD);
        check.due("panel 8", x.year(8), BAD);
        check.due("panel -1", x.year(-1), BAD);
        check.due("nothing changes", x.now(0), 0);
        years(x, 1, 1);
        writerIs(x, 0, 0, 1, 0);
        writerIs(x, 1, 2, 0, 0);
        writerIs(x, 2, 4, 1, 0);
        writerIs(x, 3, 0, 0, 0);
        check.due("brought", x.now(1), 350);
        check.due("marks have it", x.mark(1, 2, 0), 380);
        years(x, 1, 1);
        writerIs(x, 0, 0, 2, 1);
        writerIs(x, 1, 3, 0, 0);
        writerIs(x, 2, 5, 0, 0);
        check.due("brought 2", x.now(1), 700);
        check.due("three are there", x.order(1, 0, -1), 3);
        check.due("marks all the same", x.mark(0, 0, 0), 100);
        check.due("pairs", x.tell(0, 0, 1, 0, 0), 3);
        years(x, 1, 1);
        writerIs(x, 0, 0, 0, 1);
        writerIs(x, 1, 5, 0, 0);
        writerIs(x, 2, 5, 1, 0);
        years(x, 1, 4);
        writerIs(x, 1, 9, 0, 0);
        writerIs(x, 2, 7, 1, 0);
        check.due("brought 7", x.now(1), 2450);
        check.due("the year", x.now(0), 7);
    }

    private static void yearEdges() {
        check.about("promise 20, edges");
        PursesByLot never = Check.laid("w9,0,0;w1,0,1;j0,0,0;p1,0,0;");
        for (int y = 0; y < 120; y++) {
            never.year(1);
        }
        writerIs(never, 1, 0, 120, 0);
        writerIs(never, 0, 9, 0, 0);
        check.due("brought", never.now(1), 9 * 120);
        PursesByLot nobody = Check.laid("w9,0,0;w1,0,1;j0,0,0;l1;");
        check.due("none paid", nobody.year(1), 0);
        check.due("all leave", nobody.count(4), 2);
        check.due("none paid then", nobody.year(1), 0);
        check.due("none there", nobody.order(1, 0, -1), 0);
        check.due("below without plans", nobody.both(1, 0, 0, 0, 5, 2), 1);
        writerIs(nobody, 0, 0, 0, 1);
        // K is 0, so what a year pays is the first by the draw of its number.
        PursesByLot noisy = Check.laid("w0,0,0;w0,0,1;w0,0,2;j0,0,99;p1,0,0;");
        for (int y = 0; y < 100; y++) {
            int first = noisy.order(1, y % 100, 0);
            int had = noisy.writer(first, 0);
            noisy.year(1);
            check.due("paid in year " + y, noisy.writer(first, 0), Math.min(9, had + 1));
            check.due("runs no more", noisy.writer(first, 1), 0);
        }
        PursesByLot many = Check.laid("w1,0,5;".repeat(24) + "j0,0,0;p24,0,0;f5,8;");
        check.due("all paid", many.year(1), 24);
        writerIs(many, 5, 9, 0, 0);
    }

    /** Every call that asks for an order asks for it with what writers have had. */
    private static void byWhatWasHad() {
        check.about("orders by judge 2");
        PursesByLot x = Check.laid(WORLD);
        check.due("tell", x.tell(4, 0, 0, 0, 1), 2);
        check.due("tell, the other", x.tell(0, 0, 4, 0, 0), 4);
        check.due("both", x.both(4, 0, 1, 0, 2, 0), 1);
        check.due("coin", x.coin(4, 0, 1, 0, 1), 3);
        check.due("drawn", x.drawn(4, 0, 0, 1), 2);
        chanceIs(x, 4, 3, 1, 1);
        bringsAre(x, 4, 300, 350, 325, 1);
        x.later(3, 100);
        x.later(1, 30);
        check.due("hair", x.hair(4, 0, 1, 1), 70);
        // Of 1 2 3 0 by judge 0 the first that is not 3 is 1; of 3 1 2 0 by judge 2 the first that is not 1 is 3.
        check.due("golden by the panel", x.golden(0, 4, 1, 1, 0), 1);
        check.due("golden by the judge", x.golden(2, 1, 1, 1, 0), 0);
        PursesByLot y = Check.laid("w10,0,0;w9,0,1;w20,0,2;w15,0,3;j0,9,0;j9,0,0;f0,9;f3,8;");
        check.due("its order", Check.order(y, 1, 0), 0, 3, 2, 1);
        check.due("the line", y.line(1, 0, 1, 2), 15);
        check.due("the line's lot", y.line(1, 0, 1, 1), 3);
        PursesByLot own = Check.laid("w10,0,0;w30,0,1;w20,99,2;j0,9,0;j9,0,0;f0,9;");
        check.due("the judge's own first", own.golden(0, 2, 1, 4, 0), 0);
    }

    private static void lotOfYears() {
        check.about("promise 20, the lot");
        PursesByLot x = Check.laid("w9,0,0;w7,0,1;w6,0,2;w5,0,3;w3,0,4;w2,0,5;j0,0,0;p1,5,2;");
        int brought = 0;
        for (int y = 0; y < 80; y++) {
            int z = 37 * y + 11;
            int one = x.drawn(1, y, z, 1);
            int two = x.drawn(1, y, z, 2);
            brought += 9 + x.mark(one, 0, 0) + x.mark(two, 0, 0);
            check.due("paid in year " + y, x.year(1), 3);
            check.due("brought in year " + y, x.now(1), brought);
        }
        // From year 270 on 37 times the year and 11 is above 9999.
        PursesByLot far = Check.laid("w9,0,0;w7,0,1;w5,0,2;j0,0,0;p0,3,1;");
        for (int y = 0; y < 300; y++) {
            far.year(1);
            if (y > 250) {
                check.due("runs, year " + y, far.writer(((37 * y + 11) % 10000 + 1) % 3, 1), 0);
            }
        }
    }

    private static void writer() {
        check.about("promise 21");
        PursesByLot x = Check.laid(WORLD);
        writerIs(x, 2, 4, 0, 0);
        writerIs(x, 7, 0, 0, 0);
        check.due("n 8", x.writer(8, 0), BAD);
        check.due("n -1", x.writer(-1, 0), BAD);
        check.due("what 3", x.writer(0, 3), BAD);
        check.due("what -1", x.writer(0, -1), BAD);
        check.due("far", x.writer(MOST, LEAST), BAD);
    }

    private static void now() {
        check.about("promise 22");
        PursesByLot x = Check.laid(WORLD);
        check.due("year", x.now(0), 0);
        x.year(2);
        check.due("year 1", x.now(0), 1);
        // Plan 3 is paid, of the lot 1, 0 that at place 12 % 2.
        check.due("brought", x.now(1), 350);
        check.due("what 2", x.now(2), BAD);
        check.due("what -1", x.now(-1), BAD);
    }

    private static void having() {
        check.about("promise 23");
        PursesByLot x = Check.laid(WORLD);
        check.due("one year", x.having(4, 1), 1);
        check.due("two years", x.having(4, 2), 2);
        check.due("no K", x.having(1, 30), 0);
        check.due("no K, two", x.having(3, 30), 0);
        check.due("n 0", x.having(4, 0), BAD);
        check.due("n 31", x.having(4, 31), BAD);
        check.due("panel 0", x.having(0, 1), BAD);
        check.due("panel 8", x.having(8, 1), BAD);
        check.due("year as it was", x.now(0), 0);
        check.due("brought as it was", x.now(1), 0);
        check.due("left as it was", x.count(4), 0);
        writerIs(x, 2, 4, 0, 0);
        check.due("K is as it was", x.mark(3, 2, 0), 510);
        x.year(4);
        check.due("from now", x.having(4, 1), 1);
        writerIs(x, 2, 5, 0, 0);
        check.due("nothing is kept by it", x.count(3), 0);
    }

    private static void keepAndBack() {
        check.about("promises 24, 25");
        PursesByLot x = Check.laid(WORLD);
        check.due("nothing kept", x.back(), NO);
        years(x, 1, 1);
        check.due("keep", x.keep(), 1);
        years(x, 1, 1);
        check.due("keep 2", x.keep(), 2);
        years(x, 1, 3);
        check.due("keep 3", x.keep(), FULL);
        check.due("kept", x.count(3), 2);
        check.due("year 5", x.now(0), 5);
        check.due("back", x.back(), 1);
        check.due("year 2", x.now(0), 2);
        check.due("brought 2", x.now(1), 700);
        writerIs(x, 0, 0, 2, 1);
        writerIs(x, 2, 5, 0, 0);
        check.due("back 2", x.back(), 0);
        check.due("year 1", x.now(0), 1);
        check.due("brought 1", x.now(1), 350);
        writerIs(x, 0, 0, 1, 0);
        writerIs(x, 1, 2, 0, 0);
        writerIs(x, 2, 4, 1, 0);
        check.due("all are there", x.order(1, 0, -1), 4);
        check.due("back 3", x.back(), NO);
        check.due("year as it was", x.now(0), 1);
        check.due("keep again", x.keep(), 1);
        years(x, 1, 1);
        x.back();
        years(x, 1, 1);
        check.due("brought again", x.now(1), 700);
        x.keep();
        x.lay();
        check.due("nothing kept when laid", x.back(), NO);
    }

    private static void count() {
        check.about("promise 26");
        PursesByLot x = Check.laid(WORLD);
        years(x, 1, 2);
        x.keep();
        check.due("plans, of who has left too", x.count(0), 4);
        check.due("judges", x.count(1), 3);
        check.due("bytes", x.count(2), WORLD.length());
        check.due("kept", x.count(3), 1);
        check.due("left", x.count(4), 1);
        check.due("what 5", x.count(5), BAD);
        check.due("what -1", x.count(-1), BAD);
        check.due("what most", x.count(MOST), BAD);
    }

    private static void readme() {
        check.about("README");
        PursesByLot x = new PursesByLot();
        x.write(7, 0x77392c392c303bL);
        x.write(7, 0x6a302c302c303bL);
        x.write(7, 0x70312c302c303bL);
        check.due("fault", x.fault(), NONE);
        check.due("lay", x.lay(), 1);
        check.due("order", x.order(1, 0, 0), 0);
        check.due("year", x.year(1), 1);
        check.due("now", x.now(1), 9);
    }
}
