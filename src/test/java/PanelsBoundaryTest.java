/** Boundary cases of promises 8 to 10: two orders. */
public final class PanelsBoundaryTest extends Boundaries {
    // Behind a year by panel 1 plans 0 and 2 are left.
    private static final String LEAVING = "w9,0,0;w8,0,1;w7,9,0;j0,0,0;j9,0,0;p1,0,0;l1;";
    private static final String ALL_LEAVE = "w9,0,0;w8,0,1;j0,0,0;l1;";

    public static void main(String[] args) {
        runAll(PanelsBoundaryTest.class, 8, 10);
    }

    // ---- promise 8

    static void promise08_tell_whatIs0Or1(Check c) {
        PursesByLot x = Check.laid(WORLD);
        all(c, BAD, what -> x.tell(1, 0, 2, 0, what), LEAST, -1, 2, 3, MOST);
        all(c, 3, what -> x.tell(1, 0, 2, 0, what), 0, 1);
    }

    static void promise08_tell_panelOfJudgesThatAreNotThereIsBad(Check c) {
        PursesByLot x = Check.laid(WORLD);
        all(c, BAD, p -> x.tell(p, 0, 1, 0, 0), LEAST, -1, 8, 64, MOST);
        all(c, BAD, q -> x.tell(1, 0, q, 0, 0), LEAST, -1, 8, 64, MOST);
        notBad(c, p -> x.tell(p, 0, 1, 0, 0), 0, 1, 7);
        notBad(c, q -> x.tell(1, 0, q, 0, 0), 0, 1, 7);
    }

    static void promise08_tell_draw0To99(Check c) {
        PursesByLot x = Check.laid(WORLD);
        all(c, BAD, d -> x.tell(1, d, 1, 0, 0), LEAST, -1, 100, MOST);
        all(c, BAD, e -> x.tell(1, 0, 1, e, 0), LEAST, -1, 100, MOST);
        all(c, 6, d -> x.tell(1, d, 1, 99 - d, 0), 0, 99);
    }

    static void promise08_tell_drawIsAskedOfPanel0Too(Check c) {
        PursesByLot x = Check.laid(WORLD);
        all(c, BAD, d -> x.tell(0, d, 1, 0, 0), LEAST, -1, 100, MOST);
        all(c, BAD, e -> x.tell(1, 0, 0, e, 0), LEAST, -1, 100, MOST);
    }

    static void promise08_tell_badChangesNothing(Check c) {
        unchanged(c, x -> all(c, BAD, n -> x.tell(n, 0, 1, 0, 0) & x.tell(1, n, 1, 0, 0) & x.tell(1, 0, n, 0, 0)
            & x.tell(1, 0, 1, n, 0) & x.tell(1, 0, 1, 0, n), LEAST, -1, 100, MOST));
    }

    static void promise08_tell_noneOrOnePlanHasNoPairs(Check c) {
        for (String text : new String[] {"j0,0,0;", "w1,1,1;j0,0,0;"}) {
            PursesByLot x = Check.laid(text);
            all(c, 0, what -> x.tell(1, 0, 0, 0, what), 0, 1);
        }
    }

    static void promise08_tell_twoPlansAreOnePair(Check c) {
        PursesByLot x = Check.laid(ladder(2));
        c.due("alike", x.tell(1, 0, 0, 0, 0), 1);
        c.due("not unlike", x.tell(1, 0, 0, 0, 1), 0);
        c.due("unlike", x.tell(1, 0, 2, 0, 1), 1);
        c.due("not alike", x.tell(1, 0, 2, 0, 0), 0);
    }

    static void promise08_tell_all276PairsOf24(Check c) {
        PursesByLot x = Check.laid(ladder(24));
        c.due("all alike", x.tell(1, 0, 0, 0, 0), 276);
        c.due("none unlike", x.tell(1, 0, 0, 0, 1), 0);
        c.due("all unlike", x.tell(2, 0, 0, 0, 1), 276);
        c.due("none alike", x.tell(0, 0, 2, 0, 0), 0);
    }

    static void promise08_tell_likeOnesByLowerNumber(Check c) {
        // By worth, panel 0, it is 0 1, by the judge 1 0.
        PursesByLot x = Check.laid("w5,0,0;w5,9,0;j1,0,0;");
        c.due("by worth on both sides", x.tell(0, 0, 0, 0, 0), 1);
        c.due("unlike", x.tell(0, 0, 1, 0, 1), 1);
        c.due("the other way about", x.tell(1, 0, 0, 0, 1), 1);
    }

    static void promise08_tell_worthIsAskedForPanel0Alone(Check c) {
        // Neither what is safe nor what was had nor noise matters to panel 0.
        PursesByLot x = Check.laid("w3,0,0;w2,99,1;w1,50,2;j9,9,99;f1,9;f2,9;");
        c.due("alike", x.tell(0, 0, 0, 77, 0), 3);
        // By the judge it is 1 2 0.
        c.due("unlike", x.tell(0, 0, 1, 0, 1), 2);
    }

    static void promise08_tell_whoHasLeftMakesNoPair(Check c) {
        PursesByLot x = after(1, 1, LEAVING);
        c.due("alike", x.tell(0, 0, 1, 0, 0), 1);
        c.due("unlike", x.tell(1, 0, 2, 0, 1), 1);
        PursesByLot none = after(1, 1, ALL_LEAVE);
        all(c, 0, what -> none.tell(0, 0, 1, 0, what), 0, 1);
    }

    // ---- promise 9

    static void promise09_both_k1To24(Check c) {
        PursesByLot x = Check.laid(ladder(24));
        for (int what = 0; what <= 2; what++) {
            int w = what;
            all(c, BAD, k -> x.both(1, 0, 2, 0, k, w), LEAST, -1, 0, 25, MOST);
            notBad(c, k -> x.both(1, 0, 2, 0, k, w), 1, 24);
        }
        c.due("k 12", x.both(1, 0, 2, 0, 12, 0), 0);
        c.due("k 13", x.both(1, 0, 2, 0, 13, 0), 2);
        c.due("k 24", x.both(1, 0, 2, 0, 24, 0), 24);
        c.due("k 1", x.both(1, 0, 0, 0, 1, 0), 1);
    }

    static void promise09_both_whatIs0To2(Check c) {
        PursesByLot x = Check.laid(WORLD);
        all(c, BAD, what -> x.both(1, 0, 2, 0, 1, what), LEAST, -1, 3, 4, MOST);
        c.due("both", x.both(1, 0, 2, 0, 3, 0), 2);
        c.due("above", x.both(1, 0, 2, 0, 3, 1), 9);
        c.due("below", x.both(1, 0, 2, 0, 3, 2), 4);
    }

    static void promise09_both_panelOfJudgesThatAreNotThereIsBad(Check c) {
        PursesByLot x = Check.laid(WORLD);
        all(c, BAD, p -> x.both(p, 0, 1, 0, 1, 0), LEAST, -1, 8, MOST);
        all(c, BAD, q -> x.both(1, 0, q, 0, 1, 0), LEAST, -1, 8, MOST);
        all(c, 4, p -> x.both(p, 0, p, 0, 4, 0), 0, 1, 7);
    }

    static void promise09_both_draw0To99(Check c) {
        PursesByLot x = Check.laid(WORLD);
        all(c, BAD, d -> x.both(0, d, 1, 0, 1, 0), LEAST, -1, 100, MOST);
        all(c, BAD, e -> x.both(1, 0, 0, e, 1, 0), LEAST, -1, 100, MOST);
        all(c, 1, d -> x.both(1, d, 0, 99 - d, 1, 0), 0, 99);
    }

    static void promise09_both_badChangesNothing(Check c) {
        unchanged(c, x -> all(c, BAD, n -> x.both(n, 0, 1, 0, 1, 0) & x.both(1, n, 1, 0, 1, 0)
            & x.both(1, 0, n, 0, 1, 0) & x.both(1, 0, 1, n, 1, 0) & x.both(1, 0, 1, 0, n, 0)
            & x.both(1, 0, 1, 0, 1, n), LEAST, -1, 100, MOST));
    }

    private static void chanceIs(Check c, PursesByLot x, int k, int above, int below) {
        c.due("k " + k + " above", x.both(1, 0, 0, 0, k, 1), above);
        c.due("k " + k + " below", x.both(1, 0, 0, 0, k, 2), below);
    }

    static void promise09_both_byChanceInLowestTerms(Check c) {
        PursesByLot x = Check.laid(ladder(24));
        chanceIs(c, x, 1, 1, 24);
        chanceIs(c, x, 2, 1, 6);
        chanceIs(c, x, 5, 25, 24);
        chanceIs(c, x, 12, 6, 1);
        chanceIs(c, x, 16, 32, 3);
        chanceIs(c, x, 23, 529, 24);
        chanceIs(c, x, 24, 24, 1);
    }

    static void promise09_both_allIfThereAreFewerThanK(Check c) {
        PursesByLot x = Check.laid(ladder(3));
        for (int k : new int[] {3, 4, 5, 23, 24}) {
            c.due("k " + k, x.both(1, 0, 2, 0, k, 0), 3);
            chanceIs(c, x, k, 3, 1);
        }
        c.due("k 2", x.both(1, 0, 2, 0, 2, 0), 1);
        chanceIs(c, x, 2, 4, 3);
    }

    static void promise09_both_withoutPlansBelowIs1(Check c) {
        for (int k : new int[] {1, 2, 24}) {
            c.due("k " + k, Check.laid("j0,0,0;").both(1, 0, 0, 0, k, 0), 0);
            chanceIs(c, Check.laid("j0,0,0;"), k, 0, 1);
            c.due("all have left, k " + k, after(1, 1, ALL_LEAVE).both(1, 0, 0, 0, k, 0), 0);
            chanceIs(c, after(1, 1, ALL_LEAVE), k, 0, 1);
        }
    }

    static void promise09_both_withoutPlansThatWereThereBefore(Check c) {
        PursesByLot x = Check.laid(ALL_LEAVE);
        chanceIs(c, x, 1, 1, 2);
        x.year(1);
        chanceIs(c, x, 1, 0, 1);
    }

    static void promise09_both_whoHasLeftIsNotThere(Check c) {
        PursesByLot x = after(1, 1, LEAVING);
        c.due("k 1", x.both(1, 0, 2, 0, 1, 0), 0);
        c.due("k 2", x.both(1, 0, 2, 0, 2, 0), 2);
        c.due("k 24", x.both(1, 0, 2, 0, 24, 0), 2);
        chanceIs(c, x, 1, 1, 2);
        chanceIs(c, x, 24, 2, 1);
    }

    // ---- promise 10

    private static void coinIs(Check c, PursesByLot x, int p, int q, int first, int ranks) {
        c.due("first rank", x.coin(p, 0, q, 0, 0), first);
        c.due("how many", x.coin(p, 0, q, 0, 1), ranks);
    }

    static void promise10_coin_whatIs0Or1(Check c) {
        PursesByLot x = Check.laid(WORLD);
        all(c, BAD, what -> x.coin(1, 0, 2, 0, what), LEAST, -1, 2, 3, MOST);
        coinIs(c, x, 1, 2, 0, 4);
    }

    static void promise10_coin_panelOfJudgesThatAreNotThereIsBad(Check c) {
        PursesByLot x = Check.laid(WORLD);
        all(c, BAD, p -> x.coin(p, 0, 1, 0, 0), LEAST, -1, 8, MOST);
        all(c, BAD, q -> x.coin(1, 0, q, 0, 0), LEAST, -1, 8, MOST);
        notBad(c, p -> x.coin(p, 0, 1, 0, 0), 0, 1, 7);
        notBad(c, q -> x.coin(1, 0, q, 0, 0), 0, 1, 7);
    }

    static void promise10_coin_draw0To99(Check c) {
        PursesByLot x = Check.laid(WORLD);
        all(c, BAD, d -> x.coin(0, d, 2, 0, 0), LEAST, -1, 100, MOST);
        all(c, BAD, e -> x.coin(2, 0, 0, e, 0), LEAST, -1, 100, MOST);
        all(c, 4, d -> x.coin(1, d, 2, 99 - d, 1), 0, 99);
    }

    static void promise10_coin_badIsAheadOfNone(Check c) {
        PursesByLot x = Check.laid(WORLD);
        coinIs(c, x, 1, 1, NONE, NONE);
        c.due("p", x.coin(8, 0, 1, 0, 0), BAD);
        c.due("d", x.coin(1, 100, 1, 0, 0), BAD);
        c.due("q", x.coin(1, 0, 8, 0, 0), BAD);
        c.due("e", x.coin(1, 0, 1, 100, 0), BAD);
        c.due("what", x.coin(1, 0, 1, 0, 2), BAD);
    }

    static void promise10_coin_refusedChangesNothing(Check c) {
        unchanged(c, x -> {
            all(c, BAD, n -> x.coin(n, 0, 1, 0, 0) & x.coin(1, n, 1, 0, 0) & x.coin(1, 0, n, 0, 0)
                & x.coin(1, 0, 1, n, 0) & x.coin(1, 0, 1, 0, n), LEAST, -1, 100, MOST);
            all(c, NONE, what -> x.coin(1, 0, 1, 0, what), 0, 1);
        });
    }

    static void promise10_coin_noneOrOnePlanIsNone(Check c) {
        coinIs(c, Check.laid("j0,0,0;"), 0, 1, NONE, NONE);
        coinIs(c, Check.laid("w1,1,1;j0,0,0;"), 0, 1, NONE, NONE);
        coinIs(c, after(1, 1, ALL_LEAVE), 0, 1, NONE, NONE);
    }

    static void promise10_coin_twoAtLeast(Check c) {
        coinIs(c, Check.laid(ladder(2)), 1, 2, 0, 2);
        coinIs(c, Check.laid(ladder(2)), 1, 0, NONE, NONE);
    }

    static void promise10_coin_noStretchIsNone(Check c) {
        coinIs(c, Check.laid(ladder(24)), 0, 1, NONE, NONE);
    }

    static void promise10_coin_allOf24(Check c) {
        coinIs(c, Check.laid(ladder(24)), 1, 2, 0, 24);
    }

    static void promise10_coin_asManyAlikeAsUnlike(Check c) {
        // 1 2 3 0 and 3 1 0 2: three pairs are alike and three unlike.
        coinIs(c, Check.laid(WORLD), 1, 2, 0, 4);
    }

    static void promise10_coin_oneMoreAlikeThanUnlikeIsNoStretch(Check c) {
        // 0 1 2 and 0 2 1: two pairs are alike and one unlike.
        coinIs(c, Check.laid("w30,50,0;w20,0,1;w10,30,2;j1,0,0;"), 0, 1, 1, 2);
        // 0 1 2 and 2 0 1: one is alike and two are unlike.
        coinIs(c, Check.laid("w30,0,0;w20,0,1;w10,50,2;j1,0,0;"), 0, 1, 0, 3);
    }

    static void promise10_coin_ofSeveralTheFirst(Check c) {
        // 0 1 2 3 4 and 1 0 2 4 3: two stretches of two.
        coinIs(c, Check.laid("w50,0,0;w40,20,1;w30,0,2;w20,0,3;w10,15,4;j1,0,0;"), 0, 1, 0, 2);
    }

    static void promise10_coin_longestIsAheadOfTheFirst(Check c) {
        // 0 1 2 3 4 and 1 0 4 2 3: two from rank 0, three from rank 2.
        coinIs(c, Check.laid("w50,10,0;w40,30,1;w30,10,2;w20,5,3;w10,40,4;j1,0,0;"), 0, 1, 2, 3);
    }

    static void promise10_coin_ranksAreThoseOfTheFirstOrder(Check c) {
        // 0 1 2 3 4 and 1 2 3 4 0: four with plan 0 at one end.
        PursesByLot x = Check.laid("w50,0,0;w40,50,1;w30,50,2;w20,50,3;w10,50,4;j1,0,0;");
        coinIs(c, x, 0, 1, 0, 4);
        coinIs(c, x, 1, 0, 1, 4);
    }

    static void promise10_coin_whoHasLeftIsInNoStretch(Check c) {
        // 0 1 2 and 2 0 1; behind the year 0 2 and 2 0.
        coinIs(c, Check.laid(LEAVING), 1, 2, 0, 3);
        coinIs(c, after(1, 1, LEAVING), 1, 2, 0, 2);
    }
}
