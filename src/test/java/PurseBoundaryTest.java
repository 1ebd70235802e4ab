/** Boundary cases of promises 11 to 19: the purse, its lot, what it brings and costs. */
public final class PurseBoundaryTest extends Boundaries {
    // Behind a year by panel 1 plans 0 and 2 are left.
    private static final String LEAVING = "w9,0,0;w8,0,1;w7,0,0;j0,0,0;l1;p1,0,0;";

    public static void main(String[] args) {
        runAll(PurseBoundaryTest.class, 11, 19);
    }

    private static PursesByLot six(String purse) {
        return Check.laid(ladder(6) + purse);
    }

    /** LEAVING, with what else is told, behind the year in which writer 1 leaves. */
    private static PursesByLot left(String rest) {
        return after(1, 1, LEAVING + rest);
    }

    // ---- promise 11

    private static void drawnAre(Check c, PursesByLot x, int z, int... plans) {
        for (int t = 1; t <= plans.length; t++) {
            c.due("z " + z + " t " + t, x.drawn(1, 0, z, t), plans[t - 1]);
        }
        c.due("z " + z + " no more", x.drawn(1, 0, z, plans.length + 1), NONE);
    }

    static void promise11_drawn_z0To9999(Check c) {
        PursesByLot x = six("p1,4,4;");
        all(c, BAD, z -> x.drawn(1, 0, z, 1), LEAST, -1, 10000, 10001, MOST);
        // Of 1 2 3 4 places 1 of 4, 4 of 3, 9 of 2, 16 of 1.
        drawnAre(c, x, 0, 2, 3, 4, 1);
        // Places 10000 of 4, 20002 of 3, 30006 of 2, 40012 of 1.
        drawnAre(c, x, 9999, 1, 3, 2, 4);
    }

    static void promise11_drawn_t1AndMore(Check c) {
        PursesByLot x = six("p1,4,4;");
        all(c, BAD, t -> x.drawn(1, 0, 0, t), LEAST, -1, 0);
        c.due("t 1", x.drawn(1, 0, 0, 1), 2);
    }

    static void promise11_drawn_moreThanAreDrawnIsNone(Check c) {
        PursesByLot x = six("p1,4,2;");
        drawnAre(c, x, 0, 2, 3);
        all(c, NONE, t -> x.drawn(1, 0, 0, t), 3, 4, 5, 24, 25, 10000, MOST);
    }

    static void promise11_drawn_placeIsModuloHowManyAreLeft(Check c) {
        // Of 1 2 3 4 places 4 of 4, 10 of 3, 18 of 2, 28 of 1.
        drawnAre(c, six("p1,4,4;"), 3, 1, 3, 2, 4);
    }

    static void promise11_drawn_lotIsTheNextBehindTheFirst(Check c) {
        drawnAre(c, six("p0,1,1;"), 0, 0);
        drawnAre(c, six("p3,1,1;"), 0, 3);
        drawnAre(c, six("p5,1,1;"), 0, 5);
    }

    static void promise11_drawn_lotOfAsManyAsThereAre(Check c) {
        // Of 4 5 place 1 of 2 first.
        drawnAre(c, six("p4,24,1;"), 0, 5);
        drawnAre(c, six("p4,3,1;"), 0, 5);
    }

    static void promise11_drawn_noMoreThanAreInTheLot(Check c) {
        drawnAre(c, six("p4,24,24;"), 0, 5, 4);
        drawnAre(c, six("p5,2,2;"), 7, 5);
    }

    static void promise11_drawn_emptyLotIsNone(Check c) {
        drawnAre(c, six("p6,24,24;"), 0);
        drawnAre(c, six("p24,24,24;"), 0);
        drawnAre(c, six("p3,0,0;"), 0);
        drawnAre(c, six("p3,3,0;"), 0);
        drawnAre(c, six(""), 0);
        drawnAre(c, Check.laid("j0,0,0;p0,1,1;"), 0);
    }

    static void promise11_drawn_allOf24Once(Check c) {
        PursesByLot x = Check.laid(ladder(24) + "p0,24,24;");
        for (int z : new int[] {0, 1, 4999, 9999}) {
            int seen = 0;
            for (int t = 1; t <= 24; t++) {
                seen |= 1 << x.drawn(1, 0, z, t);
            }
            c.due("z " + z, seen, (1 << 24) - 1);
            c.due("no more", x.drawn(1, 0, z, 25), NONE);
        }
    }

    static void promise11_drawn_panelAndDrawThatAreNotToldAreBad(Check c) {
        PursesByLot x = Check.laid(WORLD);
        all(c, BAD, p -> x.drawn(p, 0, 0, 1), LEAST, -1, 0, 8, MOST);
        all(c, BAD, d -> x.drawn(1, d, 0, 1), LEAST, -1, 100, MOST);
        all(c, 3, d -> x.drawn(1, d, 0, 1), 0, 99);
        c.due("panel 7", x.drawn(7, 0, 0, 1), 2);
    }

    static void promise11_drawn_badIsAheadOfNone(Check c) {
        PursesByLot x = Check.laid(WORLD);
        c.due("panel", x.drawn(0, 0, 0, 9), BAD);
        c.due("draw", x.drawn(1, 100, 0, 9), BAD);
        c.due("z", x.drawn(1, 0, 10000, 9), BAD);
    }

    static void promise11_drawn_refusedOrNotChangesNothing(Check c) {
        unchanged(c, x -> {
            all(c, BAD, n -> x.drawn(n, 0, 0, 1) & x.drawn(1, n, 0, 1), LEAST, -1, 100, MOST);
            all(c, BAD, n -> x.drawn(1, 0, n, 1) & x.drawn(1, 0, 0, -Math.abs(n)), LEAST, -1, 10000, MOST);
            c.due("none", x.drawn(1, 0, 0, 9), NONE);
            c.due("again", x.drawn(1, 0, 5, 1), x.drawn(1, 0, 5, 1));
        });
    }

    static void promise11_drawn_whoHasLeftIsNotInTheLot(Check c) {
        PursesByLot x = after(1, 1, "w9,0,0;w8,0,1;w7,0,0;j0,0,0;p1,0,0;l1;");
        drawnAre(c, x, 0);
        // Year 0 draws place 12 of 2 first: writer 1 of plan 0 is paid, writer 0 leaves.
        PursesByLot y = after(1, 1, "w9,0,1;w8,0,0;w7,0,1;j0,0,0;p0,2,1;l1;");
        c.due("left", y.writer(0, 2), 1);
        drawnAre(c, y, 0, 2);
        drawnAre(c, y, 1, 0);
    }

    // ---- promise 12

    private static void chancesAre(Check c, PursesByLot x, int... parts) {
        for (int i = 0; i < parts.length / 2; i++) {
            c.due("above of " + i, x.chance(1, 0, i, 0), parts[2 * i]);
            c.due("below of " + i, x.chance(1, 0, i, 1), parts[2 * i + 1]);
        }
    }

    static void promise12_chance_ofTheFirstTheLotAndTheRest(Check c) {
        chancesAre(c, six("p2,3,2;"), 1, 1, 1, 1, 2, 3, 2, 3, 2, 3, 0, 1);
        chancesAre(c, six("p0,5,1;"), 1, 5, 1, 5, 1, 5, 1, 5, 1, 5, 0, 1);
    }

    static void promise12_chance_inLowestTerms(Check c) {
        chancesAre(c, six("p0,6,4;"), 2, 3, 2, 3, 2, 3, 2, 3, 2, 3, 2, 3);
        chancesAre(c, six("p2,4,2;"), 1, 1, 1, 1, 1, 2, 1, 2, 1, 2, 1, 2);
    }

    static void promise12_chance_ofALotForNoneIs0By1(Check c) {
        chancesAre(c, six("p1,4,0;"), 1, 1, 0, 1, 0, 1, 0, 1, 0, 1, 0, 1);
    }

    static void promise12_chance_ofALotForAllIs1By1(Check c) {
        chancesAre(c, six("p1,4,4;"), 1, 1, 1, 1, 1, 1, 1, 1, 1, 1, 0, 1);
    }

    static void promise12_chance_lotOfFewerThanAreTold(Check c) {
        chancesAre(c, six("p4,9,1;"), 1, 1, 1, 1, 1, 1, 1, 1, 1, 2, 1, 2);
        chancesAre(c, six("p3,24,24;"), 1, 1, 1, 1, 1, 1, 1, 1, 1, 1, 1, 1);
        chancesAre(c, six("p24,24,1;"), 1, 1, 1, 1, 1, 1, 1, 1, 1, 1, 1, 1);
    }

    static void promise12_chance_withoutPurseIs0By1(Check c) {
        chancesAre(c, six(""), 0, 1, 0, 1, 0, 1, 0, 1, 0, 1, 0, 1);
    }

    static void promise12_chance_planThatIsNotThereIsBad(Check c) {
        PursesByLot x = Check.laid(WORLD);
        all(c, BAD, i -> x.chance(1, 0, i, 0), LEAST, -1, 4, 24, MOST);
        all(c, BAD, i -> x.chance(1, 0, i, 1), LEAST, -1, 4, 24, MOST);
        c.due("the last", x.chance(1, 0, 3, 1), 2);
        PursesByLot all = Check.laid(ladder(24) + "p24,0,0;");
        c.due("plan 23", all.chance(1, 0, 23, 0), 1);
        c.due("plan 24", all.chance(1, 0, 24, 0), BAD);
    }

    static void promise12_chance_partIs0Or1(Check c) {
        PursesByLot x = Check.laid(WORLD);
        all(c, BAD, part -> x.chance(1, 0, 0, part), LEAST, -1, 2, MOST);
    }

    static void promise12_chance_panelAndDrawThatAreNotToldAreBad(Check c) {
        PursesByLot x = Check.laid(WORLD);
        all(c, BAD, p -> x.chance(p, 0, 1, 0), LEAST, -1, 0, 8, MOST);
        all(c, BAD, d -> x.chance(1, d, 1, 0), LEAST, -1, 100, MOST);
        all(c, 1, d -> x.chance(1, d, 1, 0), 0, 99);
        c.due("panel 7", x.chance(7, 0, 3, 0), 1);
    }

    static void promise12_chance_ofWhoHasLeftIsNo(Check c) {
        PursesByLot x = left("");
        all(c, NO, part -> x.chance(1, 0, 1, part), 0, 1);
        c.due("of who is there", x.chance(1, 0, 0, 0), 1);
        c.due("behind it", x.chance(1, 0, 2, 0), 0);
    }

    static void promise12_chance_badIsAheadOfNo(Check c) {
        PursesByLot x = left("");
        c.due("panel", x.chance(0, 0, 1, 0), BAD);
        c.due("draw", x.chance(1, 100, 1, 0), BAD);
        c.due("part", x.chance(1, 0, 1, 2), BAD);
    }

    static void promise12_chance_refusedChangesNothing(Check c) {
        unchanged(c, x -> all(c, BAD, n -> x.chance(n, 0, 1, 0) & x.chance(1, n, 1, 0) & x.chance(1, 0, n, 0)
            & x.chance(1, 0, 1, n), LEAST, -1, 100, MOST));
        unchanged(c, () -> left(""), x -> c.due("no", x.chance(1, 0, 1, 0), NO));
    }

    // ---- promise 13

    private static void bringsAre(Check c, PursesByLot x, int least, int most, int above, int below) {
        c.due("least", x.brings(1, 0, 0), least);
        c.due("most", x.brings(1, 0, 1), most);
        c.due("above", x.brings(1, 0, 2), above);
        c.due("below", x.brings(1, 0, 3), below);
    }

    static void promise13_brings_whatIs0To3(Check c) {
        PursesByLot x = six("p1,3,1;");
        all(c, BAD, what -> x.brings(1, 0, what), LEAST, -1, 4, 5, MOST);
        bringsAre(c, x, 6 + 3, 6 + 5, 10, 1);
    }

    static void promise13_brings_panelAndDrawThatAreNotToldAreBad(Check c) {
        PursesByLot x = Check.laid(WORLD);
        all(c, BAD, p -> x.brings(p, 0, 0), LEAST, -1, 0, 8, MOST);
        all(c, BAD, d -> x.brings(1, d, 0), LEAST, -1, 100, MOST);
        all(c, 350, d -> x.brings(1, d, 0), 0, 99);
        c.due("panel 7", x.brings(7, 0, 1), 350);
    }

    static void promise13_brings_badChangesNothing(Check c) {
        unchanged(c, x -> all(c, BAD, n -> x.brings(n, 0, 0) & x.brings(1, n, 0) & x.brings(1, 0, n),
            LEAST, -1, 100, MOST));
    }

    static void promise13_brings_meanInLowestTerms(Check c) {
        // One of 5 4 3 2: 14 by 4. Two of 5 4 3 2 1: 30 by 5. Two of 4 3 2: 18 by 3.
        bringsAre(c, six("p1,4,1;"), 6 + 2, 6 + 5, 12 + 7, 2);
        bringsAre(c, six("p1,5,2;"), 6 + 3, 6 + 9, 12, 1);
        bringsAre(c, six("p2,3,2;"), 11 + 5, 11 + 7, 17, 1);
        bringsAre(c, six("p0,6,5;"), 15, 20, 35, 2);
    }

    static void promise13_brings_leastAndMostAreByWorthNotByRank(Check c) {
        // In the lot 20, 10, 70, 5 in this order, for two.
        bringsAre(c, Check.laid("w9,99,0;w20,90,0;w10,80,0;w70,60,0;w5,50,0;w300,0,0;j9,0,0;p1,4,2;"),
            9 + 15, 9 + 90, 18 + 105, 2);
    }

    static void promise13_brings_lotForNoneOrAll(Check c) {
        bringsAre(c, six("p2,3,0;"), 11, 11, 11, 1);
        bringsAre(c, six("p2,3,3;"), 20, 20, 20, 1);
    }

    static void promise13_brings_lotOfAsManyAsThereAre(Check c) {
        bringsAre(c, six("p4,9,1;"), 18 + 1, 18 + 2, 39, 2);
        bringsAre(c, six("p4,9,3;"), 21, 21, 21, 1);
    }

    static void promise13_brings_firstAsManyAsThereAre(Check c) {
        bringsAre(c, six("p6,9,3;"), 21, 21, 21, 1);
        bringsAre(c, six("p24,24,24;"), 21, 21, 21, 1);
    }

    static void promise13_brings_nothingWithoutPurseOrPlans(Check c) {
        bringsAre(c, six(""), 0, 0, 0, 1);
        bringsAre(c, Check.laid("j0,0,0;p1,2,1;"), 0, 0, 0, 1);
        bringsAre(c, after(1, 1, "w9,0,0;j0,0,0;l1;"), 0, 0, 0, 1);
    }

    static void promise13_brings_greatest(Check c) {
        bringsAre(c, Check.laid(like(24, "w999,0,0;", "p24,0,0;")), 23976, 23976, 23976, 1);
        bringsAre(c, Check.laid(like(24, "w999,0,0;", "p1,23,22;")), 22977, 22977, 22977, 1);
    }

    static void promise13_brings_nothingOfWhoHasLeft(Check c) {
        PursesByLot x = after(1, 1, "w9,0,1;w8,0,0;w7,0,1;j0,0,0;p0,2,1;l1;");
        c.due("left", x.writer(0, 2), 1);
        bringsAre(c, x, 7, 9, 8, 1);
    }

    // ---- promise 14

    static void promise14_cost_badIsFarBelowZeroForBoth(Check c) {
        PursesByLot x = Check.laid(WORLD);
        for (int what = 0; what <= 1; what++) {
            int w = what;
            all(c, FAR_BAD, p -> x.cost(p, 0, w), LEAST, -1, 0, 8, MOST);
            all(c, FAR_BAD, d -> x.cost(1, d, w), LEAST, -1, 100, MOST);
        }
    }

    static void promise14_cost_whatIs0Or1(Check c) {
        PursesByLot x = Check.laid(WORLD);
        all(c, FAR_BAD, what -> x.cost(1, 0, what), LEAST, -1, 2, MOST);
        c.due("cost", x.cost(1, 0, 0), 4 * 3 + 2 * 2);
        c.due("gives", x.cost(1, 99, 1), 2 * 50 - 16);
    }

    static void promise14_cost_badChangesNothing(Check c) {
        unchanged(c, x -> {
            all(c, FAR_BAD, n -> x.cost(n, 0, 0), LEAST, -1, 0, 8, MOST);
            all(c, FAR_BAD, n -> x.cost(1, n, 0), LEAST, -1, 100, MOST);
            all(c, FAR_BAD, n -> x.cost(1, 0, n), LEAST, -1, 2, MOST);
        });
    }

    static void promise14_cost_hoursOfEachJudgeOfThePanel(Check c) {
        PursesByLot x = Check.laid("w1,0,0;w1,0,0;w1,0,0;" + "j0,0,0;".repeat(6) + "h1,5;");
        c.due("one judge", x.cost(1, 0, 0), 3 + 15);
        c.due("judge 5 alone", x.cost(32, 0, 0), 3 + 15);
        c.due("all six", x.cost(63, 0, 0), 3 + 90);
    }

    static void promise14_cost_noReadingForThoseInTheLot(Check c) {
        c.due("none in it", six("h1,5;p3,0,0;").cost(1, 0, 0), 6 + 30);
        c.due("four in it", six("h1,5;p1,4,1;").cost(1, 0, 0), 6 + 10);
        c.due("in it though for none", six("h1,5;p1,4,0;").cost(1, 0, 0), 6 + 10);
        c.due("all in it", six("h1,5;p0,6,1;").cost(1, 0, 0), 6);
        c.due("as many as there are", six("h1,5;p4,24,1;").cost(1, 0, 0), 6 + 20);
        c.due("none left for it", six("h1,5;p6,24,1;").cost(1, 0, 0), 6 + 30);
    }

    static void promise14_cost_givesForAsManyAsArePaid(Check c) {
        c.due("all", six("c10;p24,0,0;").cost(1, 0, 1), 60);
        c.due("first and by lot", six("c10;p1,3,2;").cost(1, 0, 1), 30);
        c.due("no more than are in the lot", six("c10;p5,9,9;").cost(1, 0, 1), 60);
        c.due("lot for none", six("c10;p0,6,0;").cost(1, 0, 1), 0);
        c.due("none", six("c10;").cost(1, 0, 1), 0);
    }

    static void promise14_cost_givesBelowZero(Check c) {
        c.due("by one", Check.laid("w1,0,0;j0,0,0;c9;h9,1;p1,0,0;").cost(1, 0, 1), -1);
        c.due("just so", Check.laid("w1,0,0;j0,0,0;c9;h8,1;p1,0,0;").cost(1, 0, 1), 0);
    }

    static void promise14_cost_greatest(Check c) {
        PursesByLot x = Check.laid("w1,0,0;".repeat(24) + "j0,0,0;".repeat(6) + "h99,99;");
        c.due("cost", x.cost(63, 0, 0), 24 * 99 + 24 * 6 * 99);
        c.due("gives", x.cost(63, 0, 1), -16632);
        c.due("most", Check.laid(like(24, "w1,0,0;", "c999;p24,0,0;")).cost(1, 0, 1), 23976);
    }

    static void promise14_cost_nothingWithoutPlans(Check c) {
        PursesByLot x = Check.laid("j0,0,0;h99,99;p1,1,1;");
        all(c, 0, what -> x.cost(1, 0, what), 0, 1);
    }

    static void promise14_cost_nothingForWhoHasLeft(Check c) {
        c.due("cost", left("h3,2;").cost(1, 0, 0), 2 * 3 + 2 * 2);
        c.due("gives", left("h3,2;c50;").cost(1, 0, 1), 50 - 10);
    }

    // ---- promise 15

    private static void lineIs(Check c, String text, int n, int... want) {
        PursesByLot x = Check.laid(text);
        for (int what = 0; what < 4; what++) {
            c.due(text + " n " + n + " what " + what, x.line(1, 0, n, what), want[what]);
        }
    }

    static void promise15_line_n0To24(Check c) {
        PursesByLot x = Check.laid(ladder(24));
        all(c, FAR_BAD, n -> x.line(1, 0, n, 0), LEAST, -1, 25, 26, MOST);
        c.due("n 0", x.line(1, 0, 0, 2), 0);
        c.due("n 24", x.line(1, 0, 24, 2), 300);
    }

    static void promise15_line_moreThanThereArePlansIsNo(Check c) {
        PursesByLot x = six("");
        for (int what = 0; what < 4; what++) {
            int w = what;
            all(c, FAR_NO, n -> x.line(1, 0, n, w), 7, 8, 23, 24);
            notBad(c, n -> x.line(1, 0, n, w), 0, 6);
        }
        c.due("as many as there are", x.line(1, 0, 6, 1), 6);
        c.due("one of none", Check.laid("j0,0,0;").line(1, 0, 1, 0), FAR_NO);
    }

    static void promise15_line_moreThanAreLeftIsNo(Check c) {
        PursesByLot x = left("");
        c.due("n 3", x.line(1, 0, 3, 0), FAR_NO);
        c.due("n 2", x.line(1, 0, 2, 2), 16);
    }

    static void promise15_line_whatIs0To3(Check c) {
        PursesByLot x = six("");
        all(c, FAR_BAD, what -> x.line(1, 0, 1, what), LEAST, -1, 4, 5, MOST);
        lineIs(c, ladder(6), 1, 0, 1, 6, 1);
    }

    static void promise15_line_panelAndDrawThatAreNotToldAreBad(Check c) {
        PursesByLot x = Check.laid(WORLD);
        all(c, FAR_BAD, p -> x.line(p, 0, 1, 2), LEAST, -1, 0, 8, MOST);
        all(c, FAR_BAD, d -> x.line(1, d, 1, 2), LEAST, -1, 100, MOST);
        all(c, x.line(1, 50, 1, 2), d -> x.line(1, d, 1, 2), 0, 99);
        c.due("panel 7", x.line(7, 0, 0, 2), -12 - 24);
    }

    static void promise15_line_badIsAheadOfNo(Check c) {
        PursesByLot x = six("");
        c.due("panel", x.line(0, 0, 7, 0), FAR_BAD);
        c.due("draw", x.line(1, 100, 7, 0), FAR_BAD);
        c.due("what", x.line(1, 0, 7, 4), FAR_BAD);
        c.due("n", x.line(1, 0, 25, 0), FAR_BAD);
    }

    static void promise15_line_refusedChangesNothing(Check c) {
        unchanged(c, x -> {
            all(c, FAR_BAD, n -> x.line(n, 0, 1, 0), LEAST, -1, 0, 8, MOST);
            all(c, FAR_BAD, n -> x.line(1, n, 1, 0), LEAST, -1, 100, MOST);
            all(c, FAR_BAD, n -> x.line(1, 0, n, 0), LEAST, -1, 25, MOST);
            all(c, FAR_BAD, n -> x.line(1, 0, 1, n), LEAST, -1, 4, MOST);
            c.due("no", x.line(1, 0, 24, 0), FAR_NO);
        });
    }

    static void promise15_line_forNonePaidThereIsNoLot(Check c) {
        // A lot would cost less, but B is 0 if C is.
        lineIs(c, ladder(3) + "h1,5;", 0, 0, 0, -18, 1);
    }

    static void promise15_line_forAllPaidAllAreInTheLot(Check c) {
        lineIs(c, ladder(6) + "h1,5;", 6, 0, 6, 21 - 6, 1);
        lineIs(c, like(24, "w999,0,0;", "h99,99;"), 24, 0, 24, 24 * 900, 1);
    }

    static void promise15_line_lotAsFarAsThereArePlans(Check c) {
        // Each in the lot saves 1 hour; with one more than there are it would be still better.
        lineIs(c, like(3, "w0,0,0;", "h0,1;"), 1, 0, 3, 0, 1);
        lineIs(c, like(24, "w0,0,0;", "h0,1;"), 1, 0, 24, 0, 1);
    }

    static void promise15_line_lotBehindTheFirstAsFarAsThereArePlans(Check c) {
        // A 1 and B 3: 100 and 1 less 1; A 0 and B 2: 101 less 2; A 0 and B 4: 103 by 2.
        lineIs(c, "w100,0,0;w1,0,1;w1,0,2;w1,0,3;j0,0,0;h0,1;", 2, 1, 3, 100, 1);
    }

    static void promise15_line_lotOfMoreThanAreDrawnByLess(Check c) {
        // One of 9 4 with no hour of reading is 13 by 2, the first alone 9 less 3 or 6.
        lineIs(c, "w9,0,0;w4,0,1;j0,0,0;h0,3;", 1, 0, 2, 13, 2);
    }

    static void promise15_line_ofSeveralTheLeastA(Check c) {
        // Without hours A 0 to 2 with B as C is all the same.
        lineIs(c, "w9,0,0;w5,0,1;w1,0,2;j0,0,0;", 2, 0, 2, 14, 1);
    }

    static void promise15_line_ofSeveralTheLeastB(Check c) {
        // B 2 to 4 are the same.
        lineIs(c, like(4, "w5,0,0;", ""), 2, 0, 2, 10, 1);
        // B 2: 9 less 1; B 1: 9 less 2; B 3: 24 by 3.
        lineIs(c, "w9,0,0;w9,0,1;w6,0,2;j0,0,0;h0,1;", 1, 0, 2, 8, 1);
    }

    static void promise15_line_leastAIsAheadOfLeastB(Check c) {
        // By the judge 4, 0, 2 in this order; A 0 with B 3 and A 1 with B 2 both bring 4.
        lineIs(c, "w4,9,0;w0,5,1;w2,0,2;j9,0,0;h0,1;", 2, 0, 3, 4, 1);
    }

    static void promise15_line_belowZeroInLowestTerms(Check c) {
        // A lot of 3 2 for one: 5 by 2 less 4.
        lineIs(c, "w3,0,0;w2,0,1;j0,0,0;h2,4;", 1, 0, 2, -3, 2);
        // A lot of 2 0 0 0 0 0 for one: 2 by 6 less 6.
        lineIs(c, "w2,0,0;" + "w0,0,0;".repeat(5) + "j0,0,0;h1,9;", 1, 0, 6, -17, 3);
    }

    static void promise15_line_purseIsNotAsked(Check c) {
        for (String purse : new String[] {"", "p0,0,0;", "p24,0,0;", "p1,2,1;", "p24,24,24;"}) {
            lineIs(c, "w9,0,0;w4,0,1;j0,0,0;h0,3;" + purse, 1, 0, 2, 13, 2);
        }
    }

    static void promise15_line_noneOfNoPlans(Check c) {
        lineIs(c, "j0,0,0;h99,99;", 0, 0, 0, 0, 1);
    }

    // ---- promise 16

    static void promise16_even_panelThatIsNotToldIsBad(Check c) {
        PursesByLot x = Check.laid(WORLD);
        all(c, BAD, x::even, LEAST, -1, 0, 8, 64, MOST);
        // 12 hours and 8 for each judge, by 50.
        all(c, 1, x::even, 1, 2, 3, 4, 5, 6, 7);
    }

    static void promise16_even_refusedChangesNothing(Check c) {
        unchanged(c, x -> all(c, BAD, x::even, LEAST, -1, 0, 8, MOST));
        unchanged(c, () -> Check.laid("w1,0,0;j0,0,0;c1;h2,0;"), x -> c.due("none", x.even(1), NONE));
    }

    static void promise16_even_costOfNothingIs0(Check c) {
        c.due("no hours", Check.laid(ladder(24)).even(3), 0);
        c.due("no plans", Check.laid("j0,0,0;h99,99;").even(1), 0);
        c.due("all have left", after(1, 1, "w9,0,0;j0,0,0;h99,99;l1;").even(1), 0);
    }

    static void promise16_even_justCostIsEnough(Check c) {
        c.due("20 by 10", Check.laid("w1,0,0;w1,0,1;j0,0,0;c10;h5,5;").even(1), 2);
        c.due("18 by 10", Check.laid("w1,0,0;w1,0,1;w1,0,1;j0,0,0;c10;h1,5;").even(1), 2);
        c.due("21 by 10", Check.laid("w1,0,0;w1,0,1;w1,0,1;j0,0,0;c10;h2,5;").even(1), 3);
        c.due("10 by 10", Check.laid("w1,0,0;w1,0,1;j0,0,0;c10;h0,5;").even(1), 1);
    }

    static void promise16_even_asFarAsThereArePlans(Check c) {
        c.due("all 24", Check.laid(like(24, "w1,0,0;", "c1;h1,0;")).even(1), 24);
        c.due("one more than all", Check.laid(like(24, "w1,0,0;", "c1;h1,1;")).even(1), NONE);
        c.due("one of one", Check.laid("w1,0,0;j0,0,0;c198;h99,99;").even(1), 1);
        c.due("none of one", Check.laid("w1,0,0;j0,0,0;c197;h99,99;").even(1), NONE);
    }

    static void promise16_even_purseIsNotAsked(Check c) {
        // With those in the lot not read the cost would be 10, and one would do.
        for (String purse : new String[] {"", "p0,2,1;", "p2,0,0;", "p0,2,0;"}) {
            c.due(purse, Check.laid("w1,0,0;w1,0,1;j0,0,0;c10;h5,5;" + purse).even(1), 2);
        }
    }

    static void promise16_even_eachJudgeOfThePanelReads(Check c) {
        PursesByLot x = Check.laid("w1,0,0;w1,0,1;j0,0,0;j0,0,0;c10;h0,5;");
        c.due("one", x.even(2), 1);
        c.due("two", x.even(3), 2);
    }

    static void promise16_even_whoHasLeftIsNotThere(Check c) {
        c.due("two there", left("c10;h10,0;").even(1), 2);
        c.due("not three", left("c10;h14,0;").even(1), NONE);
    }

    // ---- promise 17

    static void promise17_later_0AtFirst(Check c) {
        PursesByLot x = Check.laid(ladder(24));
        for (int i = 0; i < 24; i++) {
            c.due("plan " + i, x.later(i, 999 - i), 0);
        }
        for (int i = 0; i < 24; i++) {
            c.due("plan " + i + " then", x.later(i, 0), 999 - i);
        }
    }

    static void promise17_later_v0To999(Check c) {
        PursesByLot x = Check.laid(WORLD);
        all(c, BAD, v -> x.later(0, v), LEAST, -1, 1000, 1001, MOST);
        c.due("999", x.later(0, 999), 0);
        c.due("0", x.later(0, 0), 999);
        c.due("was 0", x.later(0, 1), 0);
    }

    static void promise17_later_planThatIsNotThereIsBad(Check c) {
        PursesByLot x = Check.laid(WORLD);
        all(c, BAD, i -> x.later(i, 5), LEAST, -1, 4, 23, 24, MOST);
        all(c, 0, i -> x.later(i, 5), 0, 3);
        PursesByLot all = Check.laid(ladder(24));
        c.due("plan 23", all.later(23, 5), 0);
        c.due("plan 24", all.later(24, 5), BAD);
        c.due("no plans", Check.laid("j0,0,0;").later(0, 0), BAD);
    }

    static void promise17_later_badChangesNothing(Check c) {
        unchanged(c, x -> {
            all(c, BAD, v -> x.later(1, v), LEAST, -1, 1000, MOST);
            all(c, BAD, i -> x.later(i, 5), LEAST, -1, 4, MOST);
        });
    }

    static void promise17_later_ofWhoHasLeft(Check c) {
        PursesByLot x = left("");
        c.due("told", x.later(1, 8), 0);
        c.due("it was", x.later(1, 9), 8);
    }

    static void promise17_later_yearsLeaveIt(Check c) {
        PursesByLot x = Check.laid(WORLD);
        x.later(2, 7);
        x.year(1);
        x.having(4, 30);
        c.due("it was", x.later(2, 0), 7);
    }

    // ---- promise 18

    /** Twelve of 999 ahead of twelve of 0. */
    private static PursesByLot halves() {
        PursesByLot x = Check.laid(ladder(24));
        for (int i = 0; i < 12; i++) {
            x.later(i, 999);
        }
        return x;
    }

    static void promise18_hair_n1To12(Check c) {
        PursesByLot x = halves();
        all(c, FAR_BAD, n -> x.hair(1, 0, n, 1), LEAST, -1, 0, 13, 24, MOST);
        c.due("n 1", x.hair(1, 0, 1, 1), 0);
        c.due("n 12", x.hair(1, 0, 12, 1), 999);
    }

    static void promise18_hair_h1To12(Check c) {
        PursesByLot x = halves();
        all(c, FAR_BAD, h -> x.hair(1, 0, 12, h), LEAST, -1, 0, 13, 24, MOST);
        c.due("h 1", x.hair(1, 0, 12, 1), 999);
        c.due("h 12", x.hair(1, 0, 12, 12), 11988);
    }

    static void promise18_hair_belowZero(Check c) {
        c.due("all", halves().hair(2, 0, 12, 12), -11988);
        c.due("one", halves().hair(2, 0, 12, 1), -999);
    }

    static void promise18_hair_ranksOnBothSides(Check c) {
        PursesByLot x = six("");
        for (int i = 0; i < 6; i++) {
            x.later(i, 1 << i);
        }
        c.due("n 1 h 1", x.hair(1, 0, 1, 1), 1 - 2);
        c.due("n 2 h 2", x.hair(1, 0, 2, 2), 1 + 2 - 4 - 8);
        c.due("n 3 h 1", x.hair(1, 0, 3, 1), 4 - 8);
        c.due("n 3 h 3", x.hair(1, 0, 3, 3), 7 - 56);
        c.due("n 5 h 1", x.hair(1, 0, 5, 1), 16 - 32);
        c.due("by judge 1", x.hair(2, 0, 2, 2), 32 + 16 - 8 - 4);
    }

    static void promise18_hair_notSoManyAheadIsNo(Check c) {
        PursesByLot x = six("");
        all(c, FAR_NO, h -> x.hair(1, 0, 1, h), 2, 3, 5, 12);
        c.due("n 2 h 3", x.hair(1, 0, 2, 3), FAR_NO);
        c.due("n 2 h 2", x.hair(1, 0, 2, 2), 0);
    }

    static void promise18_hair_notSoManyBehindIsNo(Check c) {
        PursesByLot x = six("");
        c.due("n 4 h 2", x.hair(1, 0, 4, 2), 0);
        c.due("n 4 h 3", x.hair(1, 0, 4, 3), FAR_NO);
        c.due("n 5 h 1", x.hair(1, 0, 5, 1), 0);
        all(c, FAR_NO, n -> x.hair(1, 0, n, 1), 6, 7, 12);
        c.due("no plans", Check.laid("j0,0,0;").hair(1, 0, 1, 1), FAR_NO);
        c.due("one plan", Check.laid("w1,1,1;j0,0,0;").hair(1, 0, 1, 1), FAR_NO);
        c.due("23 plans", Check.laid(ladder(23)).hair(1, 0, 12, 12), FAR_NO);
    }

    static void promise18_hair_whoHasLeftIsNotThere(Check c) {
        PursesByLot x = left("");
        x.later(0, 1);
        x.later(1, 10);
        x.later(2, 100);
        c.due("n 1", x.hair(1, 0, 1, 1), 1 - 100);
        c.due("n 2", x.hair(1, 0, 2, 1), FAR_NO);
    }

    static void promise18_hair_panelAndDrawThatAreNotToldAreBad(Check c) {
        PursesByLot x = Check.laid(WORLD);
        all(c, FAR_BAD, p -> x.hair(p, 0, 1, 1), LEAST, -1, 0, 8, MOST);
        all(c, FAR_BAD, d -> x.hair(1, d, 1, 1), LEAST, -1, 100, MOST);
        all(c, 0, d -> x.hair(7, d, 1, 1), 0, 99);
    }

    static void promise18_hair_badIsAheadOfNo(Check c) {
        PursesByLot x = six("");
        c.due("panel", x.hair(0, 0, 12, 12), FAR_BAD);
        c.due("draw", x.hair(1, 100, 12, 12), FAR_BAD);
        c.due("n", x.hair(1, 0, 13, 12), FAR_BAD);
        c.due("h", x.hair(1, 0, 12, 13), FAR_BAD);
    }

    static void promise18_hair_refusedChangesNothing(Check c) {
        unchanged(c, x -> {
            all(c, FAR_BAD, n -> x.hair(n, 0, 1, 1), LEAST, -1, 0, 8, MOST);
            all(c, FAR_BAD, n -> x.hair(1, n, 1, 1), LEAST, -1, 100, MOST);
            all(c, FAR_BAD, n -> x.hair(1, 0, n, 1), LEAST, -1, 0, 13, MOST);
            all(c, FAR_BAD, n -> x.hair(1, 0, 1, n), LEAST, -1, 0, 13, MOST);
            c.due("no", x.hair(1, 0, 12, 12), FAR_NO);
        });
    }

    // ---- promise 19

    static void promise19_golden_n1To23(Check c) {
        PursesByLot x = Check.laid(ladder(24));
        all(c, BAD, n -> x.golden(0, 2, n, 1, 0), LEAST, -1, 0, 24, 25, MOST);
        all(c, BAD, n -> x.golden(0, 2, n, 1, 1), LEAST, -1, 0, 24, 25, MOST);
        // The panel has 23 22 .., the judge's first that is not among its first n is plan 0, up to n 23.
        all(c, 1, n -> x.golden(0, 2, n, 1, 0), 1, 2, 22, 23);
        all(c, 1, n -> x.golden(0, 2, n, 1, 1), 1, 2, 22, 23);
    }

    static void promise19_golden_1To100Draws(Check c) {
        PursesByLot x = Check.laid(ladder(3));
        all(c, BAD, draws -> x.golden(0, 2, 1, draws, 0), LEAST, -1, 0, 101, MOST);
        all(c, BAD, draws -> x.golden(0, 2, 1, draws, 1), LEAST, -1, 0, 101, MOST);
        for (int what = 0; what <= 1; what++) {
            c.due("one", x.golden(0, 2, 1, 1, what), 1);
            c.due("all", x.golden(0, 2, 1, 100, what), 100);
        }
    }

    static void promise19_golden_drawsFrom0(Check c) {
        // Right where the worse plan comes first by the noise of the panel.
        PursesByLot x = Check.laid("w100,0,0;w101,0,1;j0,0,99;j0,0,0;");
        int right = 0;
        for (int d = 0; d < 100; d++) {
            right += x.order(1, d, 0) == 0 ? 1 : 0;
            c.due("draws " + (d + 1), x.golden(1, 1, 1, d + 1, 0), right);
        }
        c.due("right in some", right > 10 && right < 90 ? 1 : 0, 1);
    }

    static void promise19_golden_judgeThatIsNotThereIsBad(Check c) {
        PursesByLot x = Check.laid(WORLD);
        all(c, BAD, j -> x.golden(j, 1, 1, 1, 0), LEAST, -1, 3, 6, MOST);
        all(c, 1, j -> x.golden(j, 1, 1, 1, 1), 0, 1, 2);
    }

    static void promise19_golden_panelThatIsNotToldIsBad(Check c) {
        PursesByLot x = Check.laid(WORLD);
        all(c, BAD, p -> x.golden(0, p, 1, 1, 0), LEAST, -1, 0, 8, MOST);
        all(c, 1, p -> x.golden(0, p, 1, 1, 1), 1, 7);
    }

    static void promise19_golden_whatIs0Or1(Check c) {
        PursesByLot x = Check.laid(WORLD);
        all(c, BAD, what -> x.golden(0, 1, 1, 1, what), LEAST, -1, 2, MOST);
    }

    static void promise19_golden_badIsAheadOfNoSuchPlan(Check c) {
        PursesByLot x = Check.laid("w1,1,1;j0,0,0;");
        c.due("judge", x.golden(1, 1, 5, 1, 1), BAD);
        c.due("panel", x.golden(0, 2, 5, 1, 1), BAD);
        c.due("n", x.golden(0, 1, 24, 1, 1), BAD);
        c.due("draws", x.golden(0, 1, 5, 101, 1), BAD);
        c.due("what", x.golden(0, 1, 5, 1, 2), BAD);
    }

    static void promise19_golden_badChangesNothing(Check c) {
        unchanged(c, x -> all(c, BAD, n -> x.golden(n, 1, 1, 1, 0) & x.golden(0, n, 1, 1, 0) & x.golden(0, 1, n, 1, 0)
            & x.golden(0, 1, 1, n, 0) & x.golden(0, 1, 1, 1, n), LEAST, -1, 101, MOST));
    }

    static void promise19_golden_fewerThanNOrNoneBesideIsNone(Check c) {
        PursesByLot x = Check.laid(ladder(3));
        c.due("n 2", x.golden(0, 2, 2, 50, 1), 50);
        for (int what = 0; what <= 1; what++) {
            int w = what;
            all(c, 0, n -> x.golden(0, 2, n, 50, w), 3, 4, 5, 23);
            c.due("no plans", Check.laid("j0,0,0;").golden(0, 1, 1, 100, what), 0);
            c.due("23 of 23", Check.laid(ladder(23)).golden(0, 2, 23, 100, what), 0);
        }
    }

    static void promise19_golden_likeWorthIsNotAbove(Check c) {
        c.due("like", Check.laid("w20,0,0;w20,9,0;j0,0,0;j9,0,0;").golden(0, 2, 1, 3, 0), 0);
        c.due("by one", Check.laid("w21,0,0;w20,9,0;j0,0,0;j9,0,0;").golden(0, 2, 1, 3, 0), 3);
        c.due("below", Check.laid("w19,0,0;w20,9,0;j0,0,0;j9,0,0;").golden(0, 2, 1, 3, 0), 0);
    }

    static void promise19_golden_heldAgainstTheLastOfTheFirstN(Check c) {
        // The panel has 0 1 2 by what is safe; the first not among n is 2, of worth 6, against 9 or 5.
        PursesByLot x = Check.laid("w9,30,0;w5,20,0;w6,10,0;j0,0,0;j9,0,0;");
        c.due("n 1", x.golden(0, 2, 1, 1, 0), 0);
        c.due("n 2", x.golden(0, 2, 2, 1, 0), 1);
    }

    static void promise19_golden_firstByTheJudgesOwnMark(Check c) {
        // Not among the panel's first are 10 and 30; judge 0 has the one ahead, judge 2 the other.
        String plans = "w10,0,0;w30,0,1;w20,99,2;";
        PursesByLot x = Check.laid(plans + "j0,9,0;j9,0,0;j0,0,0;f0,9;");
        c.due("by what was had", x.golden(0, 2, 1, 1, 0), 0);
        c.due("by worth", x.golden(2, 2, 1, 1, 0), 1);
    }

    static void promise19_golden_judgeAgainstItself(Check c) {
        c.due("never right by worth", Check.laid(ladder(3)).golden(0, 1, 1, 100, 0), 0);
        c.due("of all", Check.laid(ladder(3)).golden(0, 1, 1, 100, 1), 100);
    }

    static void promise19_golden_whoHasLeftIsNotThere(Check c) {
        PursesByLot x = left("");
        c.due("one beside", x.golden(0, 1, 1, 5, 1), 5);
        c.due("none beside", x.golden(0, 1, 2, 5, 1), 0);
    }
}
