/** Boundary cases of promises 1 to 7: the text, what is laid, marks and orders. */
public final class PlansBoundaryTest extends Boundaries {
    private static final String LETTERS_OF_ONE = "cl", LETTERS_OF_TWO = "hf", LETTERS_OF_THREE = "wjp";

    public static void main(String[] args) {
        runAll(PlansBoundaryTest.class, 1, 7);
    }

    // ---- promise 1

    static void promise01_new_textIsEmpty(Check c) {
        c.due("bytes", new PursesByLot().count(2), 0);
        c.due("wipe", new PursesByLot().wipe(), 0);
        c.due("fault", new PursesByLot().fault(), NONE);
        c.due("the first byte", new PursesByLot().write(1, 'w'), 1);
    }

    static void promise01_new_noPlansNoJudges(Check c) {
        PursesByLot x = new PursesByLot();
        c.due("plans", x.count(0), 0);
        c.due("judges", x.count(1), 0);
        c.due("mark", x.mark(0, 0, 0), BAD);
        c.due("later", x.later(0, 0), BAD);
        c.due("golden", x.golden(0, 1, 1, 1, 0), BAD);
    }

    static void promise01_new_noJudgeSoNoPanel(Check c) {
        PursesByLot x = new PursesByLot();
        c.due("order", x.order(1, 0, -1), BAD);
        c.due("tell", x.tell(1, 0, 0, 0, 0), BAD);
        c.due("both", x.both(0, 0, 1, 0, 1, 0), BAD);
        c.due("coin", x.coin(1, 0, 1, 0, 0), BAD);
        c.due("drawn", x.drawn(1, 0, 0, 1), BAD);
        c.due("chance", x.chance(1, 0, 0, 0), BAD);
        c.due("brings", x.brings(1, 0, 0), BAD);
        c.due("cost", x.cost(1, 0, 0), FAR_BAD);
        c.due("line", x.line(1, 0, 0, 0), FAR_BAD);
        c.due("even", x.even(1), BAD);
        c.due("hair", x.hair(1, 0, 1, 1), FAR_BAD);
        c.due("year", x.year(1), BAD);
        c.due("having", x.having(1, 1), BAD);
    }

    static void promise01_new_panel0OrdersNothing(Check c) {
        PursesByLot x = new PursesByLot();
        c.due("alike", x.tell(0, 0, 0, 99, 0), 0);
        c.due("unlike", x.tell(0, 0, 0, 99, 1), 0);
        c.due("both", x.both(0, 0, 0, 0, 24, 0), 0);
        c.due("coin", x.coin(0, 0, 0, 0, 1), NONE);
    }

    static void promise01_new_year0NobodyHasLeft(Check c) {
        PursesByLot x = new PursesByLot();
        c.due("year", x.now(0), 0);
        c.due("brought", x.now(1), 0);
        c.due("left", x.count(4), 0);
        for (int w = 0; w < 8; w++) {
            c.due("had", x.writer(w, 0), 0);
            c.due("running", x.writer(w, 1), 0);
            c.due("has left", x.writer(w, 2), 0);
        }
    }

    static void promise01_new_nothingKept(Check c) {
        c.due("kept", new PursesByLot().count(3), 0);
        c.due("back", new PursesByLot().back(), NO);
    }

    static void promise01_new_asIfAnEmptyTextWereLaid(Check c) {
        c.due("all that is seen", spend(new PursesByLot()), spend(Check.laid("")));
    }

    static void promise01_new_objectsShareNothing(Check c) {
        PursesByLot first = new PursesByLot();
        PursesByLot second = lived();
        c.due("all of a new one", spend(first), spend(new PursesByLot()));
        first = lived();
        second.lay();
        c.due("all of one that lived", spend(first), spend(lived()));
    }

    // ---- promise 2

    static void promise02_write_of0OrFewerBytesIsBad(Check c) {
        PursesByLot x = new PursesByLot();
        all(c, BAD, n -> x.write(n, 59), 0, -1, -8, LEAST);
    }

    static void promise02_write_of9OrMoreBytesIsBad(Check c) {
        PursesByLot x = new PursesByLot();
        all(c, BAD, n -> x.write(n, 59), 9, 16, 257, 264, MOST);
    }

    static void promise02_write_of1To8BytesIsFine(Check c) {
        for (int n = 1; n <= 8; n++) {
            c.due("bytes " + n, new PursesByLot().write(n, 0), n);
        }
    }

    static void promise02_write_highestByteFirst(Check c) {
        PursesByLot x = new PursesByLot();
        c.due("w12,3,4;", x.write(8, 0x7731322c332c343bL), 8);
        c.due("no fault", x.fault(), NONE);
        c.due("laid", x.lay(), 1);
        c.due("l9;", x.write(3, 0x6c393bL), 11);
        c.due("no fault then", x.fault(), NONE);
    }

    static void promise02_write_byteByByteIsTheSame(Check c) {
        PursesByLot x = new PursesByLot();
        for (int i = 0; i < WORLD.length(); i++) {
            c.due("byte " + i, x.write(1, WORLD.charAt(i)), i + 1);
        }
        c.due("plans", x.lay(), 4);
        c.due("all that is seen", spend(x), spend(Check.laid(WORLD)));
    }

    static void promise02_write_whatStandsAboveTheBytesIsNotTaken(Check c) {
        PursesByLot x = new PursesByLot();
        c.due("l", x.write(1, 0x776a70636866L << 8 | 'l'), 1);
        c.due("9;", x.write(2, -1L << 16 | '9' << 8 | ';'), 3);
        c.due("no fault", x.fault(), NONE);
    }

    static void promise02_write_bytesAbove127AreBytesToo(Check c) {
        PursesByLot x = new PursesByLot();
        c.due("eight", x.write(8, -1L), 8);
        c.due("fault", x.fault(), 0);
        PursesByLot y = Check.laid("l1;");
        c.due("a byte with its highest bit", y.write(3, (long) ('l' | 128) << 16 | '1' << 8 | ';'), 6);
        c.due("fault behind the item", y.fault(), 3);
    }

    private static PursesByLot withBytes(int n) {
        PursesByLot x = new PursesByLot();
        Check.tell(x, "l1;".repeat(134).substring(0, n));
        return x;
    }

    static void promise02_write_400BytesAreFine(Check c) {
        for (int n = 1; n <= 8; n++) {
            c.due(400 - n + " and " + n, withBytes(400 - n).write(n, 0), 400);
        }
        c.due("bytes", withBytes(400).count(2), 400);
    }

    static void promise02_write_401BytesAreFull(Check c) {
        for (int n = 1; n <= 8; n++) {
            c.due(401 - n + " and " + n, withBytes(401 - n).write(n, 0), FULL);
            c.due("400 and " + n, withBytes(400).write(n, 0), FULL);
        }
    }

    static void promise02_write_fullTakesNoPartOfTheBytes(Check c) {
        unchanged(c, () -> withBytes(396), x -> x.write(8, 0x3b6c313b6c313b6cL));
        PursesByLot x = withBytes(396);
        c.due("396 and 8", x.write(8, 0), FULL);
        c.due("bytes", x.count(2), 396);
        c.due("no fault", x.fault(), NONE);
        c.due("fewer still fit", x.write(4, 0x6c313b6cL), 400);
        c.due("fault", x.fault(), 399);
    }

    static void promise02_write_badChangesNothing(Check c) {
        unchanged(c, x -> all(c, BAD, n -> x.write(n, 0x77312c312c313b77L), LEAST, -1, 0, 9, MOST));
    }

    static void promise02_write_badIsAheadOfFull(Check c) {
        all(c, BAD, n -> withBytes(400).write(n, 0), LEAST, -1, 0, 9, MOST);
    }

    static void promise02_write_laidStaysUntilLay(Check c) {
        PursesByLot x = Check.laid("w1,1,1;");
        Check.tell(x, "w2,2,2;");
        c.due("plans", x.count(0), 1);
        c.due("then", x.lay(), 2);
    }

    static void promise02_write_afterAFullTextWasWiped(Check c) {
        PursesByLot x = withBytes(400);
        x.wipe();
        c.due("from the start", x.write(8, 0), 8);
    }

    // ---- promise 3

    static void promise03_wipe_emptyTextAnswers0(Check c) {
        PursesByLot x = new PursesByLot();
        c.due("new", x.wipe(), 0);
        c.due("again", x.wipe(), 0);
    }

    static void promise03_wipe_fullTextAnswers400(Check c) {
        PursesByLot x = withBytes(400);
        c.due("full", x.wipe(), 400);
        c.due("again", x.wipe(), 0);
        c.due("bytes", x.count(2), 0);
    }

    static void promise03_wipe_textWithAFaultGoesToo(Check c) {
        PursesByLot x = new PursesByLot();
        Check.tell(x, "xyz");
        c.due("fault", x.fault(), 0);
        c.due("wipe", x.wipe(), 3);
        c.due("no fault", x.fault(), NONE);
        c.due("lay", x.lay(), 0);
    }

    static void promise03_wipe_oldBytesAreNotReadBehindNewOnes(Check c) {
        PursesByLot x = new PursesByLot();
        Check.tell(x, "w1,1,1;l9;");
        x.wipe();
        Check.tell(x, "w1,1,1");
        c.due("the old ; is gone", x.fault(), 0);
        c.due("lay", x.lay(), NO);
    }

    static void promise03_wipe_whatIsLaidStays(Check c) {
        PursesByLot x = lived();
        PursesByLot y = lived();
        c.due("wipe", x.wipe(), WORLD.length() + 7);
        Check.tell(x, WORLD + "w5,5,5;");
        c.due("all that is seen", spend(x), spend(y));
    }

    // ---- promise 4

    private static void fine(Check c, String... texts) {
        for (String text : texts) {
            faultAt(c, text, NONE);
        }
    }

    private static void wrong(Check c, String... texts) {
        for (String text : texts) {
            faultAt(c, text, 0);
            faultAt(c, "c7;" + text, 3);
        }
    }

    private static void faultAt(Check c, String text, int want) {
        PursesByLot x = new PursesByLot();
        Check.tell(x, text);
        c.due("text " + text, x.fault(), want);
        c.due("text " + text + " is refused", x.lay() == NO ? 1 : 0, want == NONE ? 0 : 1);
    }

    static void promise04_fault_emptyTextHasNone(Check c) {
        fine(c, "");
    }

    static void promise04_fault_worth0To999(Check c) {
        fine(c, "w0,1,1;", "w999,1,1;");
        wrong(c, "w1000,1,1;", "w-1,1,1;");
    }

    static void promise04_fault_safe0To99(Check c) {
        fine(c, "w1,0,1;", "w1,99,1;");
        wrong(c, "w1,100,1;", "w1,999,1;");
    }

    static void promise04_fault_writer0To7(Check c) {
        fine(c, "w1,1,0;", "w1,1,7;");
        wrong(c, "w1,1,8;", "w1,1,9;", "w1,1,10;", "w1,1,256;");
    }

    static void promise04_fault_24PlansAtMost(Check c) {
        String plan = "w1,1,1;";
        faultAt(c, plan.repeat(24), NONE);
        faultAt(c, plan.repeat(25), 168);
        faultAt(c, plan.repeat(24) + "j1,1,1;p1,1,1;c1;h1,1;f1,1;l1;", NONE);
        faultAt(c, plan.repeat(24) + "l1;" + plan, 171);
        faultAt(c, "l1;" + plan.repeat(26), 171);
    }

    static void promise04_fault_leaning0To9(Check c) {
        fine(c, "j0,1,1;", "j9,1,1;");
        wrong(c, "j10,1,1;", "j99,1,1;");
    }

    static void promise04_fault_leaningToWhoHasHad0To9(Check c) {
        fine(c, "j1,0,1;", "j1,9,1;");
        wrong(c, "j1,10,1;", "j1,99,1;");
    }

    static void promise04_fault_rough0To99(Check c) {
        fine(c, "j1,1,0;", "j1,1,99;");
        wrong(c, "j1,1,100;", "j1,1,999;");
    }

    static void promise04_fault_6JudgesAtMost(Check c) {
        String judge = "j1,1,1;";
        faultAt(c, judge.repeat(6), NONE);
        faultAt(c, judge.repeat(7), 42);
        faultAt(c, judge.repeat(6) + "w1,1,1;" + judge, 49);
    }

    static void promise04_fault_purse0To24Each(Check c) {
        fine(c, "p0,0,0;", "p24,0,0;", "p0,24,0;", "p0,24,24;", "p24,24,24;");
        wrong(c, "p25,0,0;", "p0,25,0;", "p0,25,24;", "p0,25,25;", "p0,24,25;", "p999,0,0;");
    }

    static void promise04_fault_purseOfNoMoreByLotThanAreInIt(Check c) {
        fine(c, "p0,1,1;", "p0,2,1;", "p5,23,23;");
        wrong(c, "p0,0,1;", "p0,1,2;", "p24,23,24;", "p2,1,2;");
    }

    static void promise04_fault_coin1To999(Check c) {
        fine(c, "c1;", "c999;", "c001;");
        wrong(c, "c0;", "c00;", "c000;", "c1000;");
    }

    static void promise04_fault_hours0To99Each(Check c) {
        fine(c, "h0,0;", "h99,0;", "h0,99;", "h99,99;");
        wrong(c, "h100,0;", "h0,100;");
    }

    static void promise04_fault_hadByWriter0To7(Check c) {
        fine(c, "f0,1;", "f7,1;");
        wrong(c, "f8,1;", "f9,0;", "f999,0;");
    }

    static void promise04_fault_had0To9(Check c) {
        fine(c, "f1,0;", "f1,9;");
        wrong(c, "f1,10;", "f1,99;");
    }

    static void promise04_fault_leaves0To9(Check c) {
        fine(c, "l0;", "l9;");
        wrong(c, "l10;", "l99;");
    }

    static void promise04_fault_oneToThreeFigures(Check c) {
        fine(c, "w1,1,1;", "w12,12,7;", "w123,1,1;", "w000,000,000;", "w001,099,007;", "j009,009,099;",
            "p024,024,024;", "h099,099;", "f007,009;", "l009;");
        wrong(c, "w,1,1;", "w1,,1;", "w1,1,;", "w0001,1,1;", "w1,0001,1;", "w1,1,0001;", "c0001;", "l0000;", "c;",
            "h,;");
    }

    static void promise04_fault_asManyNumbersAsTheLetterHas(Check c) {
        String[] numbers = {"", "1", "1,1", "1,1,1", "1,1,1,1", "1,1,1,1,1"};
        for (char letter : "wjpchfl".toCharArray()) {
            int due = LETTERS_OF_ONE.indexOf(letter) >= 0 ? 1 : LETTERS_OF_TWO.indexOf(letter) >= 0 ? 2 : 3;
            for (int n = 0; n < numbers.length; n++) {
                faultAt(c, letter + numbers[n] + ";", n == due ? NONE : 0);
            }
        }
    }

    static void promise04_fault_noOtherLetter(Check c) {
        for (char sign = 0; sign < 256; sign++) {
            faultAt(c, sign + "1;", LETTERS_OF_ONE.indexOf(sign) >= 0 ? NONE : 0);
            faultAt(c, sign + "1,1;", LETTERS_OF_TWO.indexOf(sign) >= 0 ? NONE : 0);
            faultAt(c, sign + "1,1,1;", LETTERS_OF_THREE.indexOf(sign) >= 0 ? NONE : 0);
        }
    }

    static void promise04_fault_noOtherFigure(Check c) {
        for (char sign = 0; sign < 256; sign++) {
            faultAt(c, "l" + sign + ";", sign >= '0' && sign <= '9' ? NONE : 0);
            faultAt(c, "c" + sign + "1;", sign >= '0' && sign <= '9' ? NONE : 0);
        }
    }

    static void promise04_fault_partedByCommaAlone(Check c) {
        for (char sign = 0; sign < 256; sign++) {
            faultAt(c, "f1" + sign + "1;", sign == ',' ? NONE : 0);
        }
        wrong(c, "w1;1;1;", "w1,1;1;", "w1,1,1,;", "w,1,1,1;", "w1,,1,1;");
    }

    static void promise04_fault_semicolonBehindEachItem(Check c) {
        for (char sign = 0; sign < 256; sign++) {
            faultAt(c, "l1" + sign, sign == ';' ? NONE : 0);
        }
        faultAt(c, "l1l1;", 0);
        faultAt(c, "l1;;", 3);
        faultAt(c, "l1;l1;;l1;", 6);
    }

    static void promise04_fault_semicolonBehindTheLastItemToo(Check c) {
        String item = "w12,34,5;";
        for (int n = 1; n < item.length(); n++) {
            faultAt(c, item.substring(0, n), 0);
            faultAt(c, item + item.substring(0, n), 9);
        }
        faultAt(c, item + item, NONE);
    }

    static void promise04_fault_firstByteOfTheFirstItemThatIsNotSo(Check c) {
        faultAt(c, "c5;w100,10,8;c0;", 3);
        faultAt(c, "c5;h1,100;x", 3);
        faultAt(c, "c5;h1,10;x;y;", 9);
        faultAt(c, "w1,1,1;w1,1,1;w1,1,?;w1,1,1;", 14);
    }

    static void promise04_fault_atTheLastByteOfAFullText(Check c) {
        faultAt(c, "l1;".repeat(133) + "l", 399);
        faultAt(c, "l1;".repeat(133) + ";", 399);
    }

    static void promise04_fault_fullTextWithoutOne(Check c) {
        faultAt(c, "l1;".repeat(132) + "l01;", NONE);
        faultAt(c, "l1;".repeat(132) + "l10;", 396);
        faultAt(c, "l1;".repeat(131) + "h1,1;l1", 398);
    }

    static void promise04_fault_changesNothing(Check c) {
        unchanged(c, x -> c.due("fault", x.fault(), NONE));
        unchanged(c, () -> withBytes(397), x -> c.due("fault", x.fault(), 396));
    }

    // ---- promise 5

    static void promise05_lay_emptyTextIs0Plans(Check c) {
        PursesByLot x = lived();
        x.wipe();
        c.due("plans", x.lay(), 0);
        c.due("all that is seen", spend(x), spend(new PursesByLot()));
    }

    static void promise05_lay_24Plans(Check c) {
        PursesByLot x = new PursesByLot();
        Check.tell(x, ladder(24));
        c.due("plans", x.lay(), 24);
        c.due("worth of the first", x.mark(0, 0, 0), 24);
        c.due("worth of the last", x.mark(23, 0, 0), 1);
    }

    static void promise05_lay_judgesAlone(Check c) {
        PursesByLot x = new PursesByLot();
        Check.tell(x, "j0,0,0;".repeat(6));
        c.due("plans", x.lay(), 0);
        c.due("judges", x.count(1), 6);
    }

    static void promise05_lay_aFaultIsNo(Check c) {
        for (String text : new String[] {"x", "w1,1,1", "w1,1,1;;", "p0,1,2;", "c0;", "w1,1,1;".repeat(25)}) {
            PursesByLot x = new PursesByLot();
            Check.tell(x, text);
            c.due("lay of " + text, x.lay(), NO);
        }
    }

    static void promise05_lay_noChangesNothing(Check c) {
        // The fault stands behind items that would change everything.
        unchanged(c, () -> {
            PursesByLot x = lived();
            x.wipe();
            Check.tell(x, "w9,9,7;j9,9,9;p9,9,9;c9;h9,9;f0,9;l9;x");
            return x;
        }, x -> c.due("lay", x.lay(), NO));
    }

    static void promise05_lay_withoutPurseNobodyIsPaid(Check c) {
        PursesByLot x = Check.laid("w9,9,0;w8,8,0;j0,0,0;c7;h0,1;");
        c.due("most", x.brings(1, 0, 1), 0);
        c.due("none is drawn", x.drawn(1, 0, 0, 1), NONE);
        c.due("chance", x.chance(1, 0, 0, 0), 0);
        c.due("gives, none in the lot", x.cost(1, 0, 1), -2);
        c.due("paid", x.year(1), 0);
    }

    static void promise05_lay_withoutCoinItIs100(Check c) {
        c.due("gives", Check.laid("w9,9,0;j0,0,0;p1,0,0;").cost(1, 0, 1), 100);
        c.due("even", Check.laid("w9,9,0;w9,9,0;j0,0,0;h50,0;").even(1), 1);
        c.due("even above", Check.laid("w9,9,0;w9,9,0;j0,0,0;h50,1;").even(1), 2);
    }

    static void promise05_lay_withoutHoursTheyAre0(Check c) {
        PursesByLot x = Check.laid("w9,9,0;w9,9,0;j0,0,0;p1,0,0;");
        c.due("cost", x.cost(1, 0, 0), 0);
        c.due("even", x.even(1), 0);
    }

    static void promise05_lay_withoutHadItIs0(Check c) {
        PursesByLot x = Check.laid("w9,9,0;w9,9,1;j0,9,0;f1,3;");
        c.due("told", x.writer(1, 0), 3);
        all(c, 0, w -> x.writer(w, 0), 0, 2, 3, 4, 5, 6, 7);
        c.due("mark", x.mark(0, 0, 0), 9);
    }

    static void promise05_lay_withoutLeavingNobodyLeaves(Check c) {
        PursesByLot x = after(40, 1, "w9,0,0;w8,0,1;j0,0,0;p1,0,0;");
        c.due("left", x.count(4), 0);
        c.due("running", x.writer(1, 1), 40);
    }

    static void promise05_lay_lastPurseIsTaken(Check c) {
        PursesByLot x = Check.laid("p9,9,9;w9,0,0;w8,0,1;j0,0,0;p2,1,1;p1,0,0;");
        c.due("most", x.brings(1, 0, 1), 9);
        c.due("none is drawn", x.drawn(1, 0, 0, 1), NONE);
        c.due("taken away", Check.laid("p9,9,9;w9,0,0;j0,0,0;p0,0,0;").brings(1, 0, 1), 0);
    }

    static void promise05_lay_lastCoinIsTaken(Check c) {
        c.due("gives", Check.laid("c999;w9,0,0;j0,0,0;p1,0,0;c3;c2;").cost(1, 0, 1), 2);
    }

    static void promise05_lay_lastHoursAreTaken(Check c) {
        c.due("cost", Check.laid("h9,9;w9,0,0;j0,0,0;h99,0;h1,2;").cost(1, 0, 0), 3);
        c.due("taken away", Check.laid("h9,9;w9,0,0;j0,0,0;h0,0;").cost(1, 0, 0), 0);
    }

    static void promise05_lay_lastHadOfEachWriterIsTaken(Check c) {
        PursesByLot x = Check.laid("f0,1;f7,9;f0,2;f3,3;f7,0;");
        c.due("writer 0", x.writer(0, 0), 2);
        c.due("writer 3", x.writer(3, 0), 3);
        c.due("writer 7", x.writer(7, 0), 0);
    }

    static void promise05_lay_lastLeavingIsTaken(Check c) {
        c.due("left behind 2", after(2, 1, "l9;w9,0,0;j0,0,0;l1;l2;").count(4), 1);
        c.due("not behind 1", after(1, 1, "l9;w9,0,0;j0,0,0;l1;l2;").count(4), 0);
        c.due("never", after(20, 1, "l1;w9,0,0;j0,0,0;l0;").count(4), 0);
    }

    static void promise05_lay_nothingOfWhatWasLaidBefore(Check c) {
        String few = "w5,5,5;w4,4,4;j0,0,0;";
        PursesByLot x = Check.laid(ladder(24) + "j9,9,9;p0,9,4;c999;h99,99;f0,9;f7,9;l1;");
        // Laid several times, so that a row that is used again would show what it held.
        for (int times = 0; times < 3; times++) {
            c.due("plans", x.lay(), 24);
        }
        x.wipe();
        Check.tell(x, few);
        c.due("plans of the few", x.lay(), 2);
        c.due("none is drawn", x.drawn(1, 0, 0, 1), NONE);
        c.due("year", x.year(1), 0);
        c.due("even", x.even(1), 0);
        c.due("all that is seen", spend(x), spend(after(1, 1, few)));
    }

    static void promise05_lay_eachThingToldBeforeIsGone(Check c) {
        String few = "w5,0,0;w4,0,1;j0,0,0;";
        PursesByLot coin = laidAnew(few + "c7;", few + "p1,0,0;");
        c.due("coin", coin.cost(1, 0, 1), 100);
        c.due("hours", laidAnew(few + "h5,5;", few).cost(1, 0, 0), 0);
        c.due("first", laidAnew(few + "p2,0,0;", few).year(1), 0);
        c.due("lot", laidAnew(few + "p0,2,0;", few + "h0,1;").cost(1, 0, 0), 2);
        c.due("by lot", laidAnew(few + "p0,2,2;", few).year(1), 0);
        c.due("had", laidAnew(few + "f1,9;", few).writer(1, 0), 0);
        PursesByLot leaving = laidAnew(few + "l1;", few);
        leaving.year(1);
        c.due("leaving", leaving.count(4), 0);
    }

    /** The second text laid on an object on which the first has been laid several times. */
    private static PursesByLot laidAnew(String before, String text) {
        PursesByLot x = Check.laid(before);
        x.lay();
        x.lay();
        x.wipe();
        Check.tell(x, text);
        x.lay();
        return x;
    }

    static void promise05_lay_anewAllBeginsAgain(Check c) {
        PursesByLot x = Check.laid(WORLD);
        x.later(0, 999);
        x.later(3, 1);
        x.year(1);
        x.keep();
        x.year(1);
        c.due("one has left", x.count(4), 1);
        c.due("plans", x.lay(), 4);
        c.due("year", x.now(0), 0);
        c.due("brought", x.now(1), 0);
        c.due("left", x.count(4), 0);
        c.due("kept", x.count(3), 0);
        c.due("later of the first", x.later(0, 0), 0);
        c.due("later of the last", x.later(3, 0), 0);
        c.due("had as told", x.writer(2, 0), 4);
        c.due("all that is seen", spend(x), spend(Check.laid(WORLD)));
    }

    static void promise05_lay_laterOfAll24Is0Again(Check c) {
        PursesByLot x = Check.laid(ladder(24));
        for (int i = 0; i < 24; i++) {
            x.later(i, 7);
        }
        x.lay();
        for (int i = 0; i < 24; i++) {
            c.due("later of " + i, x.later(i, 7), 0);
        }
    }

    static void promise05_lay_textStays(Check c) {
        PursesByLot x = Check.laid(WORLD);
        c.due("bytes", x.count(2), WORLD.length());
        c.due("again", x.lay(), 4);
        c.due("bytes again", x.count(2), WORLD.length());
    }

    static void promise05_lay_numbersAsTheyCome(Check c) {
        PursesByLot x = Check.laid("j1,0,0;l3;w1,10,0;c9;w2,20,0;j2,0,0;w3,30,0;");
        c.due("plan 0, judge 0", x.mark(0, 0, 0), 11);
        c.due("plan 2, judge 0", x.mark(2, 0, 0), 33);
        c.due("plan 1, judge 1", x.mark(1, 1, 0), 42);
    }

    // ---- promise 6

    static void promise06_mark_planThatIsNotThereIsBad(Check c) {
        PursesByLot x = Check.laid(WORLD);
        all(c, BAD, i -> x.mark(i, 0, 0), LEAST, -1, 4, 24, MOST);
        c.due("the last", x.mark(3, 0, 0), 150);
        PursesByLot all = Check.laid(ladder(24));
        c.due("plan 23", all.mark(23, 0, 0), 1);
        c.due("plan 24", all.mark(24, 0, 0), BAD);
        c.due("no plans", Check.laid("j0,0,0;").mark(0, 0, 0), BAD);
    }

    static void promise06_mark_judgeThatIsNotThereIsBad(Check c) {
        PursesByLot x = Check.laid(WORLD);
        all(c, BAD, j -> x.mark(0, j, 0), LEAST, -1, 3, 6, MOST);
        c.due("the last", x.mark(0, 2, 0), 100);
        PursesByLot six = Check.laid("w5,1,0;" + "j0,0,0;".repeat(5) + "j9,0,0;");
        c.due("judge 5", six.mark(0, 5, 0), 14);
        c.due("judge 6", six.mark(0, 6, 0), BAD);
        c.due("no judges", Check.laid("w5,1,0;").mark(0, 0, 0), BAD);
    }

    static void promise06_mark_draw0To99(Check c) {
        PursesByLot x = Check.laid(WORLD);
        all(c, BAD, d -> x.mark(1, 0, d), LEAST, -1, 100, MOST);
        all(c, 200, d -> x.mark(1, 0, d), 0, 1, 98, 99);
    }

    static void promise06_mark_badChangesNothing(Check c) {
        unchanged(c, x -> all(c, BAD, n -> x.mark(n, 0, 0) & x.mark(0, n, 0) & x.mark(0, 0, n), LEAST, -1, 100, MOST));
    }

    static void promise06_mark_notRoughIsWithoutNoise(Check c) {
        PursesByLot x = Check.laid(like(24, "w0,0,0;", "j0,0,0;"));
        for (int d = 0; d < 100; d += 9) {
            for (int i = 0; i < 24; i++) {
                c.due("plan " + i + " draw " + d, x.mark(i, d % 2, d), 0);
            }
        }
    }

    static void promise06_mark_noiseOfTheRoughest(Check c) {
        PursesByLot x = Check.laid("w0,0,0;".repeat(24) + "j0,0,99;".repeat(6));
        c.due("all first", x.mark(0, 0, 0), 86);
        c.due("last plan", x.mark(23, 0, 0), 82);
        c.due("last judge", x.mark(0, 5, 0), -69);
        c.due("last draw", x.mark(0, 0, 99), -1);
        c.due("all last", x.mark(23, 5, 99), 39);
        c.due("the least", x.mark(18, 4, 0), -99);
        c.due("the most", x.mark(19, 5, 99), 99);
    }

    static void promise06_mark_noiseOfRough1(Check c) {
        PursesByLot x = Check.laid("w0,0,0;w0,0,0;w0,0,0;j0,0,1;");
        c.due("plan 0", x.mark(0, 0, 0), 0);
        c.due("plan 1", x.mark(1, 0, 0), -1);
        c.due("plan 2", x.mark(2, 0, 0), 1);
    }

    static void promise06_mark_greatest(Check c) {
        PursesByLot x = Check.laid("w999,99,7;j9,9,0;f7,9;");
        c.due("all together", x.mark(0, 0, 0), 999 + 9 * 99 + 10 * 9 * 9);
    }

    static void promise06_mark_ofAWriterWhoHasLeft(Check c) {
        PursesByLot x = after(1, 1, "w9,0,0;w8,0,1;j0,0,0;j1,1,0;p1,0,0;f1,2;l1;");
        c.due("it has left", x.writer(1, 2), 1);
        c.due("mark", x.mark(1, 0, 0), 8);
        c.due("mark with what it had", x.mark(1, 1, 0), 28);
    }

    // ---- promise 7

    static void promise07_order_rankBelowMinus1IsBad(Check c) {
        PursesByLot x = Check.laid(WORLD);
        all(c, BAD, r -> x.order(1, 0, r), -2, -3, LEAST);
    }

    static void promise07_order_rankMinus1IsHowMany(Check c) {
        c.due("four", Check.laid(WORLD).order(1, 0, -1), 4);
        c.due("all", Check.laid(ladder(24)).order(3, 99, -1), 24);
        c.due("none", Check.laid("j0,0,0;").order(1, 0, -1), 0);
    }

    static void promise07_order_rankBehindTheLastIsNone(Check c) {
        PursesByLot x = Check.laid(WORLD);
        c.due("the last", x.order(1, 0, 3), 0);
        all(c, NONE, r -> x.order(1, 0, r), 4, 5, 23, 24, 25, 1000, MOST);
        PursesByLot all = Check.laid(ladder(24));
        c.due("the last of 24", all.order(1, 0, 23), 23);
        all(c, NONE, r -> all.order(1, 0, r), 24, 25, MOST);
        c.due("no plans", Check.laid("j0,0,0;").order(1, 0, 0), NONE);
    }

    static void promise07_order_emptyPanelIsBad(Check c) {
        PursesByLot x = Check.laid(WORLD);
        all(c, BAD, r -> x.order(0, 0, r), -1, 0, 3, 4);
    }

    static void promise07_order_panelOfJudgesThatAreNotThereIsBad(Check c) {
        PursesByLot x = Check.laid(WORLD);
        all(c, BAD, p -> x.order(p, 0, 0), LEAST, -1, 8, 9, 15, 32, 64, 1 << 30, MOST);
        notBad(c, p -> x.order(p, 0, 0), 1, 2, 3, 4, 5, 6, 7);
        PursesByLot six = Check.laid("w1,0,0;" + "j0,0,0;".repeat(6));
        c.due("all six", six.order(63, 0, 0), 0);
        all(c, BAD, p -> six.order(p, 0, 0), 64, 65, 127, LEAST + 1);
    }

    static void promise07_order_draw0To99(Check c) {
        PursesByLot x = Check.laid(WORLD);
        all(c, BAD, d -> x.order(1, d, 0), LEAST, -1, 100, MOST);
        all(c, 1, d -> x.order(1, d, 0), 0, 99);
    }

    static void promise07_order_badIsAheadOfNone(Check c) {
        PursesByLot x = Check.laid(WORLD);
        c.due("panel", x.order(0, 0, 4), BAD);
        c.due("draw", x.order(1, 100, 4), BAD);
    }

    static void promise07_order_refusedChangesNothing(Check c) {
        unchanged(c, x -> {
            all(c, BAD, n -> x.order(n, 0, 0) & x.order(1, n, 0), LEAST, -1, 100, MOST);
            all(c, NONE, r -> x.order(1, 0, r), 24, MOST);
        });
    }

    static void promise07_order_likeMarksByLowerNumber(Check c) {
        PursesByLot x = Check.laid(like(24, "w5,5,5;", ""));
        for (int r = 0; r < 24; r++) {
            c.due("rank " + r, x.order(1, 0, r), r);
        }
        // 30, 20, 30, 20 by both judges together.
        PursesByLot y = Check.laid("w20,10,0;w20,0,0;w10,20,0;w0,20,0;j0,0,0;j1,0,0;");
        c.due("like sums", Check.order(y, 3, 0), 0, 1, 2, 3);
        c.due("like ones between", Check.order(y, 2, 0), 0, 2, 1, 3);
    }

    static void promise07_order_theOtherWayAbout(Check c) {
        PursesByLot x = Check.laid(ladder(24));
        for (int r = 0; r < 24; r++) {
            c.due("rank " + r, x.order(2, 0, r), 23 - r);
        }
    }

    static void promise07_order_marksOfAPanelAreTheirsTogether(Check c) {
        PursesByLot x = Check.laid(WORLD);
        // 250, 425, 300, 400; with judge 2: 350, 625, 450, 910.
        c.due("judges 0 and 1", Check.order(x, 3, 0), 1, 3, 2, 0);
        c.due("all judges", Check.order(x, 7, 0), 3, 1, 2, 0);
    }

    static void promise07_order_belowZeroToo(Check c) {
        PursesByLot x = Check.laid("w0,0,0;w0,0,1;w0,0,2;w0,0,3;j0,0,99;");
        // 86, 11, -64, -98 in draw 0.
        c.due("by noise", Check.order(x, 1, 0), 0, 1, 2, 3);
    }

    static void promise07_order_whoHasLeftIsNotInIt(Check c) {
        PursesByLot x = after(1, 1, "w9,0,0;w8,0,1;w7,0,0;j0,0,0;p1,0,0;l1;");
        c.due("how many", x.order(1, 1, -1), 2);
        c.due("the rest", Check.order(x, 1, 1), 0, 2);
        c.due("none behind", x.order(1, 1, 2), NONE);
    }

    static void promise07_order_allHaveLeft(Check c) {
        PursesByLot x = after(1, 1, "w9,0,0;w8,0,1;j0,0,0;l1;");
        c.due("how many", x.order(1, 1, -1), 0);
        c.due("the first", x.order(1, 1, 0), NONE);
    }
}
