/** Boundary cases of promises 20 to 26: years, writers, what is kept. */
public final class YearsBoundaryTest extends Boundaries {
    // Year 0 draws plan 0, year 1 plan 1, and so on in turn.
    private static final String IN_TURN = "w9,0,0;w8,0,1;j0,0,0;p0,2,1;";
    private static final String FIRST_ALONE = "w9,0,0;w8,0,1;j0,0,0;p1,0,0;";
    private static final String EIGHT_LEAVE = "w1,0,0;w1,0,1;w1,0,2;w1,0,3;w1,0,4;w1,0,5;w1,0,6;w1,0,7;j0,0,0;l1;";
    // With what was had it is plan 0 that is paid, without it plan 1.
    private static final String WHO_HAS = "w10,0,0;w15,0,1;j0,1,0;j0,0,0;p1,0,0;f0,1;";

    public static void main(String[] args) {
        runAll(YearsBoundaryTest.class, 20, 26);
    }

    private static void writerIs(Check c, PursesByLot x, int n, int had, int running, int left) {
        c.due("writer " + n + " had", x.writer(n, 0), had);
        c.due("writer " + n + " running", x.writer(n, 1), running);
        c.due("writer " + n + " left", x.writer(n, 2), left);
    }

    // ---- promise 20

    static void promise20_year_panelThatIsNotToldIsBad(Check c) {
        PursesByLot x = Check.laid(WORLD);
        all(c, BAD, x::year, LEAST, -1, 0, 8, 64, MOST);
        all(c, 2, x::year, 1, 7);
        c.due("no judges", Check.laid("w1,1,1;").year(1), BAD);
    }

    static void promise20_year_badChangesNothing(Check c) {
        unchanged(c, x -> all(c, BAD, x::year, LEAST, -1, 0, 8, MOST));
    }

    static void promise20_year_paysAsManyAsThereAre(Check c) {
        c.due("first and by lot", Check.laid(ladder(6) + "p1,3,2;").year(1), 3);
        c.due("fewer than the first", Check.laid(ladder(6) + "p24,0,0;").year(1), 6);
        c.due("fewer in the lot", Check.laid(ladder(6) + "p5,9,9;").year(1), 6);
        c.due("lot for none", Check.laid(ladder(6) + "p2,4,0;").year(1), 2);
        c.due("no purse", Check.laid(ladder(6)).year(1), 0);
        c.due("all 24", Check.laid(ladder(24) + "p12,12,12;").year(1), 24);
    }

    static void promise20_year_withoutPlansItPassesToo(Check c) {
        PursesByLot x = Check.laid("j0,0,0;p1,1,1;l1;");
        c.due("paid", x.year(1), 0);
        c.due("year", x.now(0), 1);
        c.due("brought", x.now(1), 0);
        c.due("left", x.count(4), 0);
    }

    static void promise20_year_hadIs9AtMost(Check c) {
        writerIs(c, after(1, 1, "w9,0,0;w8,0,0;j0,0,0;p2,0,0;f0,7;"), 0, 9, 0, 0);
        writerIs(c, after(1, 1, "w9,0,0;w8,0,0;j0,0,0;p2,0,0;f0,8;"), 0, 9, 0, 0);
        writerIs(c, after(1, 1, "w9,0,0;w8,0,0;j0,0,0;p2,0,0;f0,9;"), 0, 9, 0, 0);
        writerIs(c, after(8, 1, FIRST_ALONE), 0, 8, 0, 0);
        writerIs(c, after(9, 1, FIRST_ALONE), 0, 9, 0, 0);
        writerIs(c, after(30, 1, FIRST_ALONE), 0, 9, 0, 0);
        writerIs(c, after(1, 1, like(24, "w1,0,5;", "p24,0,0;")), 5, 9, 0, 0);
    }

    static void promise20_year_hadOneMoreForEachThatIsPaid(Check c) {
        PursesByLot x = after(1, 1, "w9,0,0;w8,0,0;w7,0,1;w6,0,0;j0,0,0;p3,0,0;f1,4;");
        writerIs(c, x, 0, 2, 0, 0);
        writerIs(c, x, 1, 5, 0, 0);
    }

    static void promise20_year_hadByLotToo(Check c) {
        PursesByLot x = after(1, 1, IN_TURN);
        writerIs(c, x, 0, 1, 0, 0);
        writerIs(c, x, 1, 0, 1, 0);
        c.due("brought", x.now(1), 9);
    }

    static void promise20_year_runningIs0AgainWhenPaid(Check c) {
        PursesByLot x = after(2, 1, IN_TURN);
        writerIs(c, x, 0, 1, 1, 0);
        writerIs(c, x, 1, 1, 0, 0);
        x.year(1);
        writerIs(c, x, 0, 2, 0, 0);
        writerIs(c, x, 1, 1, 1, 0);
    }

    static void promise20_year_oneOfSeveralPaidIsNotRunning(Check c) {
        writerIs(c, after(3, 1, "w9,0,0;w8,0,0;w7,0,0;j0,0,0;p1,0,0;l1;"), 0, 3, 0, 0);
    }

    static void promise20_year_writerWithoutPlansIsNotRunning(Check c) {
        PursesByLot x = after(5, 1, FIRST_ALONE + "f7,3;l2;");
        writerIs(c, x, 7, 3, 0, 0);
        writerIs(c, x, 2, 0, 0, 0);
    }

    static void promise20_year_leavesBehindFYearsNotSooner(Check c) {
        for (int f = 1; f <= 9; f++) {
            String text = FIRST_ALONE + "l" + f + ";";
            writerIs(c, after(f - 1, 1, text), 1, 0, f - 1, 0);
            writerIs(c, after(f, 1, text), 1, 0, f, 1);
            writerIs(c, after(f, 1, text), 0, f, 0, 0);
        }
    }

    static void promise20_year_leaves0IsNever(Check c) {
        writerIs(c, after(200, 1, FIRST_ALONE + "l0;"), 1, 0, 200, 0);
        c.due("left", after(30, 1, "w9,0,0;w8,0,1;j0,0,0;l0;").count(4), 0);
    }

    static void promise20_year_leavesOnlyBehindYearsRunning(Check c) {
        c.due("two never run", after(40, 1, IN_TURN + "l2;").count(4), 0);
        c.due("one does", after(1, 1, IN_TURN + "l1;").count(4), 1);
    }

    static void promise20_year_whoHasLeftRunsNoMore(Check c) {
        writerIs(c, after(2, 1, FIRST_ALONE + "l2;"), 1, 0, 2, 1);
        writerIs(c, after(3, 1, FIRST_ALONE + "l2;"), 1, 0, 0, 1);
        writerIs(c, after(20, 1, FIRST_ALONE + "l2;"), 1, 0, 0, 1);
    }

    static void promise20_year_whoHasLeftIsNotPaid(Check c) {
        // Year 1 would draw plan 1 if its writer were there.
        PursesByLot x = after(1, 1, IN_TURN + "f1,3;l1;");
        c.due("one is paid", x.year(1), 1);
        writerIs(c, x, 0, 2, 0, 0);
        writerIs(c, x, 1, 3, 0, 1);
        c.due("brought", x.now(1), 18);
    }

    static void promise20_year_allHaveLeft(Check c) {
        PursesByLot x = after(1, 1, "w9,0,0;w8,0,1;j0,0,0;l1;");
        c.due("left", x.count(4), 2);
        c.due("paid", x.year(1), 0);
        c.due("year", x.now(0), 2);
        writerIs(c, x, 0, 0, 0, 1);
    }

    static void promise20_year_0IsDraw0AndDrawnBy11(Check c) {
        PursesByLot x = Check.laid("w1,0,0;w2,0,1;w4,0,2;w8,0,3;w16,0,4;j0,0,99;p1,4,2;");
        int due = (1 << x.order(1, 0, 0)) + (1 << x.drawn(1, 0, 11, 1)) + (1 << x.drawn(1, 0, 11, 2));
        c.due("paid", x.year(1), 3);
        c.due("brought", x.now(1), due);
    }

    static void promise20_year_1IsDraw1AndDrawnBy48(Check c) {
        PursesByLot x = after(1, 1, "w1,0,0;w2,0,1;w4,0,2;w8,0,3;w16,0,4;j0,0,99;p1,4,2;");
        int due = x.now(1) + (1 << x.order(1, 1, 0)) + (1 << x.drawn(1, 1, 48, 1)) + (1 << x.drawn(1, 1, 48, 2));
        x.year(1);
        c.due("brought", x.now(1), due);
    }

    static void promise20_year_100IsDraw0Again(Check c) {
        PursesByLot x = after(95, 1, "w0,0,0;w0,0,1;w0,0,2;j0,0,99;p1,0,0;");
        for (int y = 95; y < 125; y++) {
            int first = x.order(1, y % 100, 0);
            x.year(1);
            for (int w = 0; w < 3; w++) {
                c.due("year " + y + " writer " + w + " runs", x.writer(w, 1) > 0 ? 1 : 0, w == first ? 0 : 1);
            }
        }
    }

    static void promise20_year_270IsDrawnBy1(Check c) {
        PursesByLot x = after(265, 1, "w9,0,0;w7,0,1;w5,0,2;j0,0,0;p0,3,1;");
        for (int y = 265; y < 285; y++) {
            int drawn = ((37 * y + 11) % 10000 + 1) % 3;
            c.due("asked for", x.drawn(1, 0, (37 * y + 11) % 10000, 1), drawn);
            x.year(1);
            for (int w = 0; w < 3; w++) {
                c.due("year " + y + " writer " + w + " runs", x.writer(w, 1) > 0 ? 1 : 0, w == drawn ? 0 : 1);
            }
        }
    }

    static void promise20_year_ordersByWhatWasHadBeforeIt(Check c) {
        // Writer 1 is ahead by 5, and behind once the other has had one more.
        PursesByLot x = Check.laid("w10,0,0;w15,0,1;w9,0,1;j0,1,0;j9,0,0;p1,0,0;");
        x.year(1);
        writerIs(c, x, 1, 1, 0, 0);
        writerIs(c, x, 0, 0, 1, 0);
        PursesByLot y = Check.laid("w10,9,0;w15,0,1;j0,1,0;j9,0,0;p1,0,0;");
        y.year(2);
        writerIs(c, y, 0, 1, 0, 0);
        y.year(1);
        writerIs(c, y, 0, 2, 0, 0);
        writerIs(c, y, 1, 0, 2, 0);
    }

    static void promise20_year_greatestBrought(Check c) {
        c.due("brought", after(450, 1, like(24, "w999,0,0;", "p24,0,0;")).now(1), 450 * 24 * 999);
    }

    // ---- promise 21

    static void promise21_writer_0To7(Check c) {
        PursesByLot x = Check.laid("f0,1;f1,2;f2,3;f3,4;f4,5;f5,6;f6,7;f7,8;");
        for (int what = 0; what <= 2; what++) {
            int w = what;
            all(c, BAD, n -> x.writer(n, w), LEAST, -1, 8, 9, MOST);
        }
        for (int n = 0; n < 8; n++) {
            writerIs(c, x, n, n + 1, 0, 0);
        }
    }

    static void promise21_writer_whatIs0To2(Check c) {
        PursesByLot x = Check.laid(WORLD);
        all(c, BAD, what -> x.writer(2, what), LEAST, -1, 3, 4, MOST);
        writerIs(c, x, 2, 4, 0, 0);
    }

    static void promise21_writer_badChangesNothing(Check c) {
        unchanged(c, x -> all(c, BAD, n -> x.writer(n, 0) & x.writer(0, n), LEAST, -1, 8, MOST));
    }

    static void promise21_writer_leftIs1Or0(Check c) {
        PursesByLot x = after(1, 1, EIGHT_LEAVE);
        all(c, 1, n -> x.writer(n, 2), 0, 1, 2, 3, 4, 5, 6, 7);
        PursesByLot y = after(1, 1, EIGHT_LEAVE + "p7,0,0;");
        all(c, 0, n -> y.writer(n, 2), 0, 1, 2, 3, 4, 5, 6);
        c.due("the last", y.writer(7, 2), 1);
    }

    // ---- promise 22

    static void promise22_now_whatIs0Or1(Check c) {
        PursesByLot x = after(3, 1, FIRST_ALONE);
        all(c, BAD, x::now, LEAST, -1, 2, 3, MOST);
        c.due("year", x.now(0), 3);
        c.due("brought", x.now(1), 27);
    }

    static void promise22_now_badChangesNothing(Check c) {
        unchanged(c, x -> all(c, BAD, x::now, LEAST, -1, 2, MOST));
    }

    static void promise22_now_yearIsNotModulo100(Check c) {
        c.due("99", after(99, 1, FIRST_ALONE).now(0), 99);
        c.due("100", after(100, 1, FIRST_ALONE).now(0), 100);
        c.due("300", after(300, 1, FIRST_ALONE).now(0), 300);
    }

    static void promise22_now_inThe512thCall(Check c) {
        // Four calls write the text and one lays it.
        PursesByLot x = after(506, 1, FIRST_ALONE);
        c.due("the text", FIRST_ALONE.length(), 28);
        c.due("year", x.now(0), 506);
    }

    // ---- promise 23

    static void promise23_having_1To30Years(Check c) {
        PursesByLot x = Check.laid(WHO_HAS);
        all(c, BAD, n -> x.having(1, n), LEAST, -1, 0, 31, 32, MOST);
        for (int n = 1; n <= 30; n++) {
            c.due("years " + n, x.having(1, n), n);
        }
    }

    static void promise23_having_panelThatIsNotToldIsBad(Check c) {
        PursesByLot x = Check.laid(WORLD);
        all(c, BAD, p -> x.having(p, 1), LEAST, -1, 0, 8, MOST);
        c.due("panel 1", x.having(1, 1), 0);
        c.due("panel 4", x.having(4, 1), 1);
        // Together it is 3 1 2 0 with K and 1 3 2 0 without; either way 1 and 3 are paid.
        c.due("panel 7", x.having(7, 1), 0);
    }

    static void promise23_having_refusedOrNotChangesNothing(Check c) {
        unchanged(c, x -> all(c, BAD, n -> x.having(n, 1) & x.having(1, n), LEAST, -1, 0, 31, MOST));
        unchanged(c, x -> {
            x.having(4, 30);
            x.having(7, 1);
        });
        unchanged(c, () -> Check.laid(WHO_HAS + "l1;"), x -> x.having(1, 30));
        unchanged(c, () -> after(120, 1, WHO_HAS), x -> x.having(3, 30));
    }

    static void promise23_having_withoutKIsNone(Check c) {
        PursesByLot x = Check.laid(WHO_HAS);
        all(c, 0, n -> x.having(2, n), 1, 30);
        c.due("nobody paid", Check.laid("w10,0,0;w15,0,1;j0,1,0;f0,1;").having(1, 30), 0);
        c.due("no plans", Check.laid("j0,9,0;p1,0,0;").having(1, 30), 0);
        c.due("all paid", Check.laid("w10,0,0;w15,0,1;j0,1,0;p2,0,0;f0,1;").having(1, 30), 0);
    }

    static void promise23_having_withWhoLeavesOnEitherSide(Check c) {
        // With it writer 1 leaves behind the first year, without it writer 0.
        c.due("leave behind 1", Check.laid(WHO_HAS + "l1;").having(1, 30), 30);
        c.due("all have left", after(1, 1, "w9,0,0;w8,0,1;j0,9,0;l1;").having(1, 30), 0);
        // In both 0 is paid in the first year and 1 leaves.
        c.due("none to pay beside", after(1, 1, FIRST_ALONE + "l1;j0,9,0;").having(2, 30), 0);
    }

    static void promise23_having_countsWhatIsHadInTheYearsThemselves(Check c) {
        // Year 0 pays plan 0 by panel 2; from then on panel 1 pays it for having had.
        PursesByLot x = Check.laid("w10,9,0;w15,0,1;j0,1,0;j9,0,0;p1,0,0;");
        c.due("before", x.having(1, 5), 0);
        x.year(2);
        c.due("then", x.having(1, 5), 5);
    }

    static void promise23_having_fromNowOnAndBeyondYear100(Check c) {
        // Writer 3 has never had and, as long as K counts, never will.
        String plans = "w50,0,0;w50,0,1;w50,0,2;w50,0,3;", purse = "p1,2,1;f0,9;f1,9;f2,9;";
        String with = plans + "j0,9,99;" + purse, without = plans + "j0,0,99;" + purse;
        int years = 85;
        PursesByLot x = after(years, 1, with);
        PursesByLot y = after(years, 1, without);
        int[] due = new int[31];
        for (int n = 1; n <= 30; n++) {
            x.year(1);
            y.year(1);
            due[n] = due[n - 1];
            for (int w = 0; w < 4; w++) {
                due[n] += x.writer(w, 1) == 0 && y.writer(w, 1) > 0 ? 1 : 0;
            }
        }
        PursesByLot z = after(years, 1, with);
        for (int n = 1; n <= 30; n++) {
            c.due("years " + n, z.having(1, n), due[n]);
        }
        c.due("some", due[30] > due[15] && due[15] > 0 ? 1 : 0, 1);
    }

    // ---- promise 24

    static void promise24_keep_2AtMost(Check c) {
        PursesByLot x = Check.laid(WORLD);
        c.due("first", x.keep(), 1);
        c.due("second", x.keep(), 2);
        c.due("third", x.keep(), FULL);
        c.due("again", x.keep(), FULL);
        c.due("kept", x.count(3), 2);
    }

    static void promise24_keep_fullChangesNothing(Check c) {
        unchanged(c, x -> c.due("full", x.keep(), FULL));
    }

    static void promise24_keep_againWhenOneIsBack(Check c) {
        PursesByLot x = Check.laid(WORLD);
        x.keep();
        x.keep();
        x.back();
        c.due("second again", x.keep(), 2);
        c.due("full again", x.keep(), FULL);
        x.back();
        x.back();
        c.due("first again", x.keep(), 1);
    }

    static void promise24_keep_ofANewObject(Check c) {
        PursesByLot x = new PursesByLot();
        c.due("first", x.keep(), 1);
        c.due("second", x.keep(), 2);
        c.due("third", x.keep(), FULL);
    }

    static void promise24_keep_laterYearsDoNotTouchIt(Check c) {
        PursesByLot x = after(1, 1, WORLD);
        x.keep();
        x.year(1);
        x.keep();
        for (int y = 0; y < 9; y++) {
            x.year(4);
        }
        x.back();
        x.back();
        c.due("all that is seen", spend(x), spend(after(1, 1, WORLD)));
    }

    static void promise24_keep_2AgainBehindLay(Check c) {
        PursesByLot x = lived();
        x.lay();
        c.due("first", x.keep(), 1);
        c.due("second", x.keep(), 2);
        c.due("third", x.keep(), FULL);
    }

    // ---- promise 25

    static void promise25_back_nothingKeptIsNo(Check c) {
        c.due("new", new PursesByLot().back(), NO);
        PursesByLot x = Check.laid(WORLD);
        x.keep();
        c.due("back", x.back(), 0);
        c.due("no more", x.back(), NO);
        c.due("again", x.back(), NO);
        c.due("kept", x.count(3), 0);
    }

    static void promise25_back_noChangesNothing(Check c) {
        unchanged(c, () -> after(3, 1, WORLD), x -> c.due("no", x.back(), NO));
    }

    static void promise25_back_nothingKeptWhenLaidIsNo(Check c) {
        PursesByLot x = lived();
        x.lay();
        c.due("no", x.back(), NO);
    }

    static void promise25_back_keptStaysWhenNotLaid(Check c) {
        PursesByLot x = lived();
        Check.tell(x, "x");
        x.lay();
        c.due("back", x.back(), 1);
        c.due("back again", x.back(), 0);
    }

    static void promise25_back_lastKeptIsFirst(Check c) {
        PursesByLot x = after(1, 1, FIRST_ALONE);
        x.keep();
        x.year(1);
        x.keep();
        x.year(1);
        c.due("back", x.back(), 1);
        c.due("year", x.now(0), 2);
        c.due("brought", x.now(1), 18);
        c.due("back again", x.back(), 0);
        c.due("year again", x.now(0), 1);
        c.due("brought again", x.now(1), 9);
    }

    static void promise25_back_allFiveThingsKept(Check c) {
        PursesByLot x = after(1, 1, IN_TURN + "w1,0,2;l2;");
        x.keep();
        x.year(1);
        writerIs(c, x, 2, 0, 2, 1);
        writerIs(c, x, 1, 1, 0, 0);
        c.due("back", x.back(), 0);
        writerIs(c, x, 0, 1, 0, 0);
        writerIs(c, x, 1, 0, 1, 0);
        writerIs(c, x, 2, 0, 1, 0);
        c.due("left", x.count(4), 0);
        c.due("year", x.now(0), 1);
        c.due("brought", x.now(1), 9);
        c.due("takes part again", x.order(1, 0, -1), 3);
    }

    static void promise25_back_whoHadLeftHasLeft(Check c) {
        PursesByLot x = after(1, 1, FIRST_ALONE + "l1;");
        x.keep();
        x.year(1);
        writerIs(c, x, 1, 0, 0, 1);
        x.back();
        writerIs(c, x, 1, 0, 1, 1);
        c.due("takes no part", x.order(1, 0, -1), 1);
    }

    static void promise25_back_textLaidAndLaterStay(Check c) {
        PursesByLot x = Check.laid(FIRST_ALONE);
        x.keep();
        x.later(0, 5);
        Check.tell(x, "w1,1,1;");
        x.back();
        c.due("bytes", x.count(2), FIRST_ALONE.length() + 7);
        c.due("plans", x.count(0), 2);
        c.due("later", x.later(0, 0), 5);
    }

    static void promise25_back_yearsGoOnFromThere(Check c) {
        PursesByLot x = after(2, 1, WORLD);
        x.keep();
        for (int y = 0; y < 5; y++) {
            x.year(4);
        }
        x.back();
        x.year(1);
        c.due("all that is seen", spend(x), spend(after(3, 1, WORLD)));
    }

    // ---- promise 26

    static void promise26_count_whatIs0To4(Check c) {
        PursesByLot x = lived();
        all(c, BAD, x::count, LEAST, -1, 5, 6, MOST);
        c.due("plans", x.count(0), 4);
        c.due("judges", x.count(1), 3);
        c.due("bytes", x.count(2), WORLD.length() + 7);
        c.due("kept", x.count(3), 2);
        c.due("left", x.count(4), 1);
    }

    static void promise26_count_badChangesNothing(Check c) {
        unchanged(c, x -> all(c, BAD, x::count, LEAST, -1, 5, MOST));
    }

    static void promise26_count_nothingOfANewObject(Check c) {
        PursesByLot x = new PursesByLot();
        all(c, 0, x::count, 0, 1, 2, 3, 4);
    }

    static void promise26_count_asMuchAsThereCanBe(Check c) {
        PursesByLot x = Check.laid("w1,1,1;".repeat(24) + "j1,1,1;".repeat(6));
        Check.tell(x, "l1;".repeat(62) + "l01;");
        c.due("plans", x.count(0), 24);
        c.due("judges", x.count(1), 6);
        c.due("bytes", x.count(2), 400);
        c.due("writers that have left", after(1, 1, EIGHT_LEAVE).count(4), 8);
    }

    static void promise26_count_plansOfWhoHasLeftToo(Check c) {
        PursesByLot x = after(1, 1, EIGHT_LEAVE);
        c.due("plans", x.count(0), 8);
        c.due("none takes part", x.order(1, 0, -1), 0);
    }

    static void promise26_count_leftOnceEach(Check c) {
        c.due("behind 9 years", after(9, 1, EIGHT_LEAVE + "p7,0,0;").count(4), 1);
    }
}
