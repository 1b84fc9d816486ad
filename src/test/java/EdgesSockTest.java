/** Edges of promises 1 to 7: a new sock, one told anew, wear, darns put in and unpicked, years, undo. */
public final class EdgesSockTest {
    private static final int[] WOOL = {0, 1, 2, 3, 4, 5};
    private static final int[] SILK = {0, 1, 1, 2, 2, 3};
    private static final int[] SCRAP = {1, 2, 3, 4, 5, 6};
    private static final int[] TWICE_SCRAP = {2, 4, 6, 8, 10, 12};

    public static void main(String[] args) {
        Edges.runAll(EdgesSockTest.class);
    }

    // ---- promise 1

    static void promise01_holesAllOver() {
        DarnedSock x = new DarnedSock();
        Edges.due("darns", x.count(0), 0);
        Edges.due("holes", x.count(1), 9);
        Edges.due("holes, as bits", x.holes(0), 511);
        for (int c = 0; c < 9; c++) {
            Edges.due("darns of cell " + c, x.cell(c, 1), 0);
            Edges.due("the lowest of cell " + c, x.of(c, 0, 0), -1);
        }
    }

    static void promise01_cellsWear1AtFirst() {
        DarnedSock x = new DarnedSock();
        for (int c = 0; c < 9; c++) Edges.due("cell " + c, x.cell(c, 0), 1);
    }

    static void promise01_theYearIs0AtFirst() {
        Edges.due("year", new DarnedSock().count(2), 0);
    }

    static void promise01_theFractionIs0By1AtFirst() {
        Edges.fraction("at first", new DarnedSock(), 0, 1);
    }

    static void promise01_noReadingsNothingToUndoNoText() {
        DarnedSock x = new DarnedSock();
        for (int what = 3; what <= 5; what++) Edges.due("count " + what, x.count(what), 0);
    }

    static void promise01_nothingWasRefused() {
        Edges.status("at first", new DarnedSock(), 0, 0, 0);
    }

    static void promise01_noImageWasKept() {
        Edges.no("from 0", DarnedSock::new, x -> x.from(0));
        Edges.no("from 1", DarnedSock::new, x -> x.from(1));
    }

    static void promise01_twoSocksAreApart() {
        DarnedSock x = Edges.lived();
        DarnedSock y = new DarnedSock();
        y.image(0);
        y.sock(-1);
        Edges.due("the other", y.digest(), new DarnedSock().digest());
        Edges.due("the one", x.digest(), Edges.lived().digest());
        Edges.status("the one", x, 0, 0, 0);
    }

    static void promise01_theConstants() {
        Edges.due("NONE", DarnedSock.NONE, -1);
        Edges.due("BAD", DarnedSock.BAD, -2);
        Edges.due("NO", DarnedSock.NO, -3);
        Edges.due("FULL", DarnedSock.FULL, -4);
    }

    // ---- promise 2

    static void promise02_theYearIs0To99() {
        Edges.range("sock", Edges::lived, DarnedSock::sock, 0, 4, 99, 4);
        for (int year : new int[] {0, 1, 98, 99}) {
            DarnedSock x = Edges.lived();
            x.sock(year);
            Edges.due("year " + year, x.count(2), year);
        }
    }

    static void promise02_howManyDarnsThereWere() {
        DarnedSock x = Edges.filled();
        Edges.due("of 27", x.sock(1), 27);
        Edges.due("of none", x.sock(1), 0);
        x.darn(8, 0, 0, 1);
        Edges.due("of one", x.sock(1), 1);
    }

    static void promise02_noDarnsAreLeft() {
        DarnedSock x = Edges.filled();
        x.sock(3);
        Edges.due("darns", x.count(0), 0);
        Edges.due("holes", x.holes(0), 511);
        for (int c = 0; c < 9; c++) Edges.due("room in cell " + c, x.darn(c, 0, 0, 1), 1);
    }

    static void promise02_cellsWear1() {
        DarnedSock x = new DarnedSock();
        for (int c = 0; c < 9; c++) x.wear(c, c == 8 ? 0 : 5);
        x.sock(3);
        for (int c = 0; c < 9; c++) Edges.due("cell " + c, x.cell(c, 0), 1);
    }

    static void promise02_noReadings() {
        DarnedSock x = new DarnedSock();
        for (int i = 0; i < 6; i++) x.reading(0, 0, 1);
        x.sock(3);
        Edges.due("readings", x.count(3), 0);
        Edges.due("the next is the first", x.reading(0, 0, 1), 1);
    }

    static void promise02_nothingMayBeUndoneBehindIt() {
        DarnedSock x = Edges.filled();
        x.sock(3);
        Edges.due("count", x.count(4), 0);
        Edges.due("undo", x.undo(), -3);
        Edges.due("year", x.count(2), 3);
    }

    static void promise02_textFractionImagesStatusStay() {
        DarnedSock x = Edges.lived();
        x.status(9);
        x.sock(3);
        Edges.due("text", x.count(5), 20);
        Edges.fraction("fraction", x, 11, 41);
        Edges.status("status", x, 1, 0, 0);
        Edges.due("image 0", x.from(0), 1);
        Edges.due("its darns", x.count(0), 5);
        Edges.due("image 1", x.from(1), 1);
        Edges.due("its readings", x.count(3), 2);
    }

    // ---- promise 3

    static void promise03_theCellIs0To8() {
        Edges.range("cell", Edges::lived, (x, n) -> x.wear(n, 5), 0, 2, 8, 0);
    }

    static void promise03_wearsIs0To5() {
        Edges.range("w", Edges::lived, (x, n) -> x.wear(0, n), 0, 2, 5, 2);
        DarnedSock x = new DarnedSock();
        int did = 1;
        for (int w = 0; w <= 5; w++) {
            Edges.due("what it did", x.wear(4, w), did);
            Edges.due("what it does", x.cell(4, 0), w);
            did = w;
        }
    }

    static void promise03_otherCellsWearAsTheyDid() {
        DarnedSock x = new DarnedSock();
        x.wear(0, 0);
        x.wear(8, 5);
        for (int c = 0; c < 9; c++) Edges.due("cell " + c, x.cell(c, 0), c == 0 ? 0 : c == 8 ? 5 : 1);
    }

    static void promise03_bothNumbersBadIsOneRefusal() {
        Edges.bad("both", Edges::lived, x -> x.wear(9, 6));
        Edges.bad("both", Edges::lived, x -> x.wear(Edges.LOW, Edges.HIGH));
    }

    static void promise03_mayNotBeUndone() {
        DarnedSock x = new DarnedSock();
        x.wear(0, 5);
        Edges.due("count", x.count(4), 0);
        Edges.due("undo", x.undo(), -3);
        Edges.due("wears", x.cell(0, 0), 5);
    }

    // ---- promise 4

    static void promise04_theCellIs0To8() {
        Edges.range("cell", () -> Edges.woollen(1, 30), (x, n) -> x.darn(n, 0, 0, 1), 0, 2, 8, 2);
    }

    static void promise04_theKindIs0To5() {
        Edges.range("kind", Edges::lived, (x, n) -> x.darn(4, n, 0, 1), 0, 2, 5, 2);
    }

    static void promise04_theFamilyIs0To2() {
        Edges.range("family", Edges::lived, (x, n) -> x.darn(4, 0, n, 1), 0, 2, 2, 2);
    }

    static void promise04_theThreadIs1To30() {
        Edges.range("thread", Edges::lived, (x, n) -> x.darn(4, 0, 0, n), 1, 2, 30, 2);
    }

    static void promise04_threeDarnsAreTakenTheFourthIsFull() {
        DarnedSock x = new DarnedSock();
        for (int i = 1; i <= 3; i++) Edges.due("darn " + i, x.darn(8, 0, 0, i), i);
        Edges.due("the fourth", x.darn(8, 0, 0, 4), -4);
        Edges.status("the fourth", x, 0, 0, 1);
        Edges.full("full cell 0", Edges::lived, y -> y.darn(0, 0, 0, 1));
        for (int c = 0; c < 9; c++) {
            int cell = c;
            Edges.full("all are full, cell " + c, Edges::filled, y -> y.darn(cell, 5, 2, 30));
        }
    }

    static void promise04_badGoesAheadOfFull() {
        Edges.bad("kind", Edges::filled, x -> x.darn(0, 6, 0, 1));
        Edges.bad("family", Edges::filled, x -> x.darn(0, 0, 3, 1));
        Edges.bad("thread", Edges::filled, x -> x.darn(0, 0, 0, 31));
        Edges.bad("thread", Edges::filled, x -> x.darn(0, 0, 0, 0));
    }

    static void promise04_aFullCellLeavesTheOthersRoom() {
        DarnedSock x = Edges.lived();
        Edges.due("cell 1", x.darn(1, 0, 0, 1), 1);
        Edges.due("cell 4", x.darn(4, 0, 0, 1), 2);
    }

    static void promise04_roomAgainBehindUnpickYearAndUndo() {
        DarnedSock x = Edges.filled();
        x.unpick(3);
        Edges.due("behind unpick", x.darn(3, 0, 0, 1), 3);
        Edges.due("full", x.darn(3, 0, 0, 1), -4);
        x.years(1);
        Edges.due("behind a year in which it is gone", x.darn(3, 0, 0, 1), 3);
        x.undo();
        Edges.due("behind undo", x.darn(3, 0, 0, 1), 3);
    }

    static void promise04_itIsOfItsNumbersAndThisYear() {
        DarnedSock x = new DarnedSock();
        x.sock(99);
        x.darn(8, 5, 2, 30);
        x.years(20);
        x.darn(8, 0, 0, 1);
        int[][] darns = {{5, 2, 10, 99}, {0, 0, 1, 119}};
        for (int place = 0; place < 2; place++) {
            for (int what = 0; what < 4; what++) Edges.due("of " + place + " " + what, x.of(8, place, what), darns[place][what]);
        }
    }

    static void promise04_itGoesOverTheOthers() {
        DarnedSock x = new DarnedSock();
        for (int kind = 1; kind <= 3; kind++) x.darn(2, kind, kind - 1, 10 * kind);
        for (int place = 0; place < 3; place++) {
            Edges.due("kind", x.of(2, place, 0), place + 1);
            Edges.due("family", x.of(2, place, 1), place);
            Edges.due("thread", x.of(2, place, 2), 10 * place + 10);
        }
    }

    // ---- promise 5

    static void promise05_theCellIs0To8() {
        Edges.range("cell", () -> Edges.woollen(2, 7), DarnedSock::unpick, 0, 7, 8, 7);
    }

    static void promise05_aHoleIsNo() {
        for (int c = 1; c < 9; c++) {
            int cell = c;
            if (c != 4) Edges.no("cell " + c, Edges::lived, x -> x.unpick(cell));
        }
        Edges.no("all are holes", DarnedSock::new, x -> x.unpick(0));
    }

    static void promise05_theLastOneLeavesAHole() {
        DarnedSock x = new DarnedSock();
        for (int i = 1; i <= 3; i++) x.darn(5, 0, 0, i);
        for (int i = 3; i >= 1; i--) {
            Edges.due("the uppermost", x.unpick(5), i);
            Edges.due("darns that are left", x.cell(5, 1), i - 1);
        }
        Edges.due("a hole", x.unpick(5), -3);
        Edges.due("holes", x.count(1), 9);
        Edges.status("a hole", x, 0, 1, 0);
    }

    static void promise05_aCellIsAHoleWhenTheLastIsGone() {
        DarnedSock x = new DarnedSock();
        x.darn(0, 0, 0, 2);
        x.years(2);
        Edges.due("gone", x.unpick(0), -3);
    }

    static void promise05_threadThatWasLeft() {
        DarnedSock x = new DarnedSock();
        x.darn(0, 0, 0, 30);
        Edges.due("all of it", x.unpick(0), 30);
        x.darn(0, 0, 0, 30);
        x.years(20);
        x.years(9);
        Edges.due("the last of it", x.unpick(0), 1);
    }

    // ---- promise 6

    private static void losses(int kind, int[] table, int year) {
        for (int w = 0; w <= 5; w++) {
            DarnedSock x = new DarnedSock();
            x.sock(year);
            x.wear(0, w);
            x.darn(0, kind, 0, 30);
            x.years(1);
            Edges.due("kind " + kind + " where it wears " + w + " in year " + year, x.of(0, 0, 2), 30 - table[w]);
        }
    }

    static void promise06_woolLosesAsItWears() {
        for (int year = 0; year < 4; year++) losses(0, WOOL, year);
    }

    static void promise06_silkLosesHalfCutUp() {
        for (int year = 0; year < 4; year++) losses(1, SILK, year);
    }

    static void promise06_scrapLosesOneMore() {
        for (int year = 0; year < 4; year++) losses(2, SCRAP, year);
    }

    static void promise06_blueLosesAsSilk() {
        for (int year = 0; year < 4; year++) losses(3, SILK, year);
    }

    static void promise06_mothedLosesAsScrapIn3sElseTwice() {
        for (int year : new int[] {0, 3, 96, 99}) losses(4, SCRAP, year);
        for (int year : new int[] {1, 2, 4, 5, 97, 98}) losses(4, TWICE_SCRAP, year);
    }

    static void promise06_lienLosesAsWool() {
        for (int year = 0; year < 4; year++) losses(5, WOOL, year);
    }

    static void promise06_byTheYearThatBeginsIt() {
        DarnedSock x = new DarnedSock();
        x.sock(2);
        x.wear(0, 0);
        x.darn(0, 4, 0, 30);
        int[] left = {28, 27, 25, 23, 22};
        for (int i = 0; i < 5; i++) {
            x.years(1);
            Edges.due("behind " + (i + 1), x.of(0, 0, 2), left[i]);
        }
    }

    static void promise06_oneThatHasNoneLeftIsGone() {
        for (int thread = 1; thread <= 5; thread++) {
            DarnedSock x = new DarnedSock();
            x.wear(0, 3);
            x.darn(0, 0, 0, thread);
            Edges.due("holes, thread " + thread, x.years(1), thread <= 3 ? 9 : 8);
            Edges.due("left of " + thread, x.of(0, 0, 2), thread <= 3 ? -1 : thread - 3);
        }
    }

    static void promise06_theOneUnderItLosesFromTheNextYearOn() {
        DarnedSock x = new DarnedSock();
        x.wear(0, 5);
        x.darn(0, 0, 0, 6);
        x.darn(0, 0, 0, 1);
        Edges.due("holes", x.years(1), 8);
        Edges.due("darns", x.cell(0, 1), 1);
        Edges.due("what was lacking is not lost below", x.of(0, 0, 2), 6);
        x.years(1);
        Edges.due("then it loses", x.of(0, 0, 2), 1);
        Edges.due("then it is gone", x.years(1), 9);
    }

    static void promise06_onlyTheUppermostLoses() {
        DarnedSock x = Edges.filled();
        x.years(7);
        for (int c = 0; c < 9; c++) {
            Edges.due("lowest", x.of(c, 0, 2), 30);
            Edges.due("between", x.of(c, 1, 2), 30);
            Edges.due("uppermost", x.of(c, 2, 2), 23);
        }
    }

    static void promise06_nIs1To20() {
        Edges.range("n", Edges::lived, DarnedSock::years, 1, 7, 20, 9);
        DarnedSock x = new DarnedSock();
        x.years(1);
        Edges.due("the year behind 1", x.count(2), 1);
        x.years(20);
        Edges.due("the year behind 20 more", x.count(2), 21);
    }

    static void promise06_eachMayBeUndone() {
        for (int n = 1; n <= 9; n++) {
            DarnedSock x = new DarnedSock();
            x.darn(0, 0, 0, 30);
            x.sock(0);
            x.years(n);
            Edges.due("behind " + n, x.count(4), Math.min(n, 8));
            x.undo();
            Edges.due("one is undone", x.count(2), n - 1);
        }
    }

    static void promise06_theYearGoesOnBehind99() {
        DarnedSock x = new DarnedSock();
        x.sock(99);
        x.darn(0, 4, 0, 30);
        x.wear(0, 0);
        x.years(1);
        Edges.due("year", x.count(2), 100);
        Edges.due("by year 99", x.of(0, 0, 2), 29);
        x.years(1);
        Edges.due("by year 100", x.of(0, 0, 2), 27);
        for (int i = 0; i < 400; i++) x.years(20);
        Edges.due("far on", x.count(2), 8101);
    }

    static void promise06_howManyHolesThereAre() {
        DarnedSock x = new DarnedSock();
        for (int c = 0; c < 9; c++) x.darn(c, 0, 0, c + 1);
        for (int m = 1; m <= 9; m++) Edges.due("behind " + m, x.years(1), m);
        Edges.due("no more than there are cells", x.years(20), 9);
    }

    static void promise06_aCellThatWears0KeepsItsWool() {
        DarnedSock x = Edges.woollen(1, 1);
        for (int c = 0; c < 9; c++) x.wear(c, 0);
        Edges.due("holes", x.years(20), 0);
        Edges.due("thread", x.of(8, 0, 2), 1);
    }

    // ---- promise 7

    static void promise07_noneMayBeAtFirst() {
        Edges.no("undo", DarnedSock::new, DarnedSock::undo);
    }

    static void promise07_noneMayBeBehindTheLast() {
        Edges.no("undo", () -> {
            DarnedSock x = Edges.lived();
            for (int i = 0; i < 7; i++) x.undo();
            return x;
        }, DarnedSock::undo);
        DarnedSock x = new DarnedSock();
        x.darn(0, 0, 0, 1);
        Edges.due("the only one", x.undo(), 0);
        Edges.due("none", x.undo(), -3);
        Edges.status("none", x, 0, 1, 0);
    }

    static void promise07_eightAtMost() {
        DarnedSock x = Edges.woollen(1, 5);
        Edges.due("nine darns were put in", x.count(4), 8);
        for (int i = 8; i >= 1; i--) {
            Edges.due("darns that are left", x.undo(), i);
            Edges.due("that may be undone", x.count(4), i - 1);
        }
        Edges.due("the first darn stays", x.undo(), -3);
        Edges.due("it is of cell 0", x.cell(0, 1), 1);
    }

    static void promise07_eightDarnsMayAllBeUndone() {
        DarnedSock x = new DarnedSock();
        for (int c = 0; c < 8; c++) x.darn(c, 0, 0, 5);
        for (int i = 7; i >= 0; i--) Edges.due("darns that are left", x.undo(), i);
        Edges.due("none", x.undo(), -3);
    }

    static void promise07_eightOfTwentyYears() {
        DarnedSock x = new DarnedSock();
        x.years(20);
        for (int year = 19; year >= 12; year--) {
            x.undo();
            Edges.due("year", x.count(2), year);
        }
        Edges.due("no more", x.undo(), -3);
        Edges.due("year", x.count(2), 12);
    }

    static void promise07_theOldestGiveWayToNewOnes() {
        DarnedSock x = new DarnedSock();
        x.years(20);
        for (int i = 0; i < 3; i++) x.undo();
        Edges.due("five are left", x.count(4), 5);
        x.years(4);
        Edges.due("eight", x.count(4), 8);
        for (int year = 20; year >= 13; year--) {
            x.undo();
            Edges.due("year", x.count(2), year);
        }
        Edges.due("no more", x.undo(), -3);
    }

    static void promise07_howCellsWearStays() {
        DarnedSock x = new DarnedSock();
        x.darn(0, 0, 0, 9);
        x.wear(0, 4);
        x.years(1);
        x.wear(0, 2);
        x.undo();
        Edges.due("wears", x.cell(0, 0), 2);
        Edges.due("thread", x.of(0, 0, 2), 9);
        x.undo();
        Edges.due("wears", x.cell(0, 0), 2);
    }

    static void promise07_readingsTextFractionStay() {
        DarnedSock x = Edges.lived();
        for (int i = 0; i < 7; i++) x.undo();
        Edges.due("readings", x.count(3), 2);
        Edges.due("text", x.count(5), 20);
        Edges.fraction("fraction", x, 11, 41);
    }

    static void promise07_oneThatWasUnpickedComesBackAsItWas() {
        DarnedSock x = new DarnedSock();
        x.sock(7);
        x.darn(6, 3, 2, 20);
        x.years(2);
        x.unpick(6);
        x.darn(6, 0, 0, 1);
        x.undo();
        Edges.due("undo", x.undo(), 1);
        int[] darn = {3, 2, 18, 7};
        for (int what = 0; what < 4; what++) Edges.due("of " + what, x.of(6, 0, what), darn[what]);
    }

    static void promise07_oneThatWasGoneComesBack() {
        DarnedSock x = new DarnedSock();
        x.darn(6, 0, 0, 9);
        x.darn(6, 1, 2, 1);
        x.years(1);
        Edges.due("gone", x.count(0), 1);
        Edges.due("undo", x.undo(), 2);
        Edges.due("thread", x.of(6, 1, 2), 1);
        Edges.due("family", x.of(6, 1, 1), 2);
    }

    static void promise07_undoMayNotBeUndone() {
        DarnedSock x = new DarnedSock();
        x.years(2);
        x.undo();
        Edges.due("that may be undone", x.count(4), 1);
        x.undo();
        Edges.due("year", x.count(2), 0);
        Edges.due("no more", x.undo(), -3);
    }

    static void promise07_refusedCallsMayNotBeUndone() {
        DarnedSock x = Edges.filled();
        for (int i = 0; i < 8; i++) x.undo();
        x.darn(0, 0, 0, 1);
        x.darn(9, 0, 0, 1);
        x.unpick(8);
        x.unpick(9);
        x.years(0);
        x.years(21);
        Edges.due("that may be undone", x.count(4), 0);
        Edges.status("refused", x, 4, 1, 1);
    }
}
