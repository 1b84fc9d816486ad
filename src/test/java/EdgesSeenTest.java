/** Edges of promises 22 to 28: readings, kinds that may be, when to look, orders, odds, what is drawn. */
public final class EdgesSeenTest {
    private static final int WOOL = 1, SILK = 2, SCRAP = 4, BLUE = 8, MOTHED = 16, LIEN = 32, ALL = 63;

    public static void main(String[] args) {
        Edges.runAll(EdgesSeenTest.class);
    }

    /** One darn in cell 0, which wears so much. */
    private static DarnedSock one(int kind, int thread, int w) {
        DarnedSock x = new DarnedSock();
        x.wear(0, w);
        x.darn(0, kind, 0, thread);
        return x;
    }

    private static DarnedSock sixReadings() {
        DarnedSock x = Edges.lived();
        for (int i = 0; i < 4; i++) x.reading(i, i, i);
        return x;
    }

    /** May of cell 0 by one reading, where the uppermost has 30 in a cell that wears so much. */
    private static int seen(int w, int year, int m, int v) {
        DarnedSock x = new DarnedSock();
        x.sock(year);
        x.wear(0, w);
        x.darn(0, 0, 0, 30);
        x.reading(0, m, v);
        return x.may(0);
    }

    // ---- promise 22

    static void promise22_theCellIs0To8() {
        Edges.range("cell", Edges::lived, (x, n) -> x.reading(n, 0, 0), 0, 3, 8, 3);
    }

    static void promise22_mIs0To20() {
        Edges.range("m", Edges::lived, (x, n) -> x.reading(0, n, 0), 0, 3, 20, 3);
    }

    static void promise22_vIs0To30() {
        Edges.range("v", Edges::lived, (x, n) -> x.reading(0, 0, n), 0, 3, 30, 3);
    }

    static void promise22_sixAreTakenTheSeventhIsFull() {
        DarnedSock x = new DarnedSock();
        for (int i = 1; i <= 6; i++) Edges.due("reading " + i, x.reading(8, 20, 30), i);
        Edges.due("the seventh", x.reading(8, 20, 30), -4);
        Edges.due("readings", x.count(3), 6);
        Edges.status("the seventh", x, 0, 0, 1);
        Edges.full("the seventh", EdgesSeenTest::sixReadings, y -> y.reading(0, 0, 0));
    }

    static void promise22_badGoesAheadOfFull() {
        Edges.bad("cell", EdgesSeenTest::sixReadings, x -> x.reading(9, 0, 0));
        Edges.bad("m", EdgesSeenTest::sixReadings, x -> x.reading(0, 21, 0));
        Edges.bad("v", EdgesSeenTest::sixReadings, x -> x.reading(0, 0, 31));
    }

    static void promise22_roomAgainBehindForget() {
        DarnedSock x = sixReadings();
        x.forget();
        Edges.due("the first", x.reading(0, 0, 0), 1);
    }

    static void promise22_aHoleMayBeRead() {
        DarnedSock x = new DarnedSock();
        Edges.due("reading", x.reading(0, 0, 5), 1);
        Edges.due("may", x.may(0), 0);
        x.darn(0, 0, 0, 5);
        Edges.due("may, of the darn that is it then", x.may(0), ALL);
    }

    static void promise22_mayNotBeUndone() {
        DarnedSock x = new DarnedSock();
        x.reading(0, 0, 5);
        Edges.due("count", x.count(4), 0);
        x.years(1);
        x.undo();
        Edges.due("readings", x.count(3), 1);
    }

    // ---- promise 23

    static void promise23_howManyThereWere() {
        Edges.due("none", new DarnedSock().forget(), 0);
        Edges.due("two", Edges.lived().forget(), 2);
        DarnedSock x = sixReadings();
        Edges.due("six", x.forget(), 6);
        Edges.due("none", x.forget(), 0);
        Edges.due("count", x.count(3), 0);
        Edges.status("forget", x, 0, 0, 0);
    }

    static void promise23_allElseStays() {
        Edges.asks("nothing was there", () -> Edges.woollen(1, 3), DarnedSock::forget, 0);
        DarnedSock x = Edges.lived();
        x.forget();
        Edges.due("darns", x.count(0), 4);
        Edges.due("that may be undone", x.count(4), 7);
        x.from(1);
        Edges.due("an image's stay", x.count(3), 2);
    }

    // ---- promise 24

    static void promise24_theCellIs0To8() {
        Edges.range("cell", () -> Edges.woollen(1, 5), DarnedSock::may, 0, ALL, 8, ALL);
    }

    static void promise24_aHoleIs0() {
        Edges.asks("no reading", DarnedSock::new, x -> x.may(0), 0);
        Edges.asks("a reading of 0", () -> {
            DarnedSock x = new DarnedSock();
            x.reading(0, 0, 0);
            return x;
        }, x -> x.may(0), 0);
    }

    static void promise24_allKindsWithoutReadings() {
        for (int kind = 0; kind < 6; kind++) {
            int k = kind;
            Edges.asks("kind " + kind, () -> one(k, 9, 3), x -> x.may(0), ALL);
        }
    }

    static void promise24_behind0YearsItHasWhatItHas() {
        Edges.due("so", seen(3, 0, 0, 30), ALL);
        Edges.due("one less", seen(3, 0, 0, 29), 0);
        Edges.due("gone", seen(3, 0, 0, 0), 0);
    }

    static void promise24_behindOneYear() {
        Edges.due("loses 3", seen(3, 0, 1, 27), WOOL + LIEN);
        Edges.due("loses 2", seen(3, 0, 1, 28), SILK + BLUE);
        Edges.due("loses 4", seen(3, 0, 1, 26), SCRAP + MOTHED);
        Edges.due("loses 4, year 1", seen(3, 1, 1, 26), SCRAP);
        Edges.due("loses 8, year 1", seen(3, 1, 1, 22), MOTHED);
        Edges.due("loses 5", seen(3, 0, 1, 25), 0);
        Edges.due("loses 0 where it wears 0", seen(0, 0, 1, 30), WOOL + SILK + BLUE + LIEN);
    }

    static void promise24_behind20Years() {
        Edges.due("20 lost", seen(1, 0, 20, 10), WOOL + SILK + BLUE + LIEN);
        Edges.due("gone", seen(1, 0, 20, 0), SCRAP + MOTHED);
        Edges.due("19 lost", seen(1, 0, 20, 11), 0);
        Edges.due("20 lost of scrap", seen(0, 0, 20, 10), SCRAP);
    }

    static void promise24_byTheYearsToCome() {
        Edges.due("from year 0 mothed loses 1, 2, 2, 1", seen(0, 0, 4, 24), MOTHED);
        Edges.due("from year 1 mothed loses 2, 2", seen(0, 1, 2, 26), MOTHED);
        Edges.due("from year 1 mothed loses 2, 2, 1", seen(0, 1, 3, 25), MOTHED);
        Edges.due("from year 2 mothed loses 2, 1", seen(0, 2, 2, 27), MOTHED);
        Edges.due("from year 2 mothed loses 2, 1, 2", seen(0, 2, 3, 25), MOTHED);
    }

    static void promise24_0IsGone() {
        Edges.due("just used up: 10 years of 3", seen(3, 0, 10, 0), WOOL + SCRAP + MOTHED + LIEN);
        Edges.due("a year ahead of it", seen(3, 0, 9, 0), SCRAP + MOTHED);
        Edges.due("a year ahead of it, 3 are left", seen(3, 0, 9, 3), WOOL + LIEN);
    }

    static void promise24_ofTheUppermostThatIsItNow() {
        DarnedSock x = new DarnedSock();
        x.darn(0, 0, 0, 9);
        x.darn(0, 0, 0, 2);
        x.reading(0, 3, 8);
        Edges.due("not of the one under it", x.may(0), 0);
        x.forget();
        x.reading(0, 3, 0);
        Edges.due("it is gone", x.may(0), ALL);
    }

    static void promise24_readingsOfOtherCellsAreNone() {
        DarnedSock x = one(0, 30, 3);
        for (int c = 1; c <= 6; c++) x.reading(c, 1, 30);
        Edges.due("may", x.may(0), ALL);
    }

    static void promise24_allReadingsOfTheCell() {
        DarnedSock x = one(4, 30, 3);
        for (int i = 0; i < 5; i++) x.reading(0, 1, 26);
        Edges.due("five", x.may(0), SCRAP + MOTHED);
        x.reading(0, 2, 18);
        Edges.due("the sixth, too", x.may(0), MOTHED);
        x.forget();
        x.reading(0, 1, 26);
        x.reading(0, 1, 27);
        Edges.due("none", x.may(0), 0);
    }

    static void promise24_fromNowOn() {
        DarnedSock x = one(0, 30, 3);
        x.reading(0, 1, 24);
        Edges.due("now", x.may(0), 0);
        x.years(1);
        Edges.due("27 are left", x.may(0), WOOL + LIEN);
        x.undo();
        Edges.due("30 are left", x.may(0), 0);
    }

    // ---- promise 25

    static void promise25_theCellIs0To8() {
        Edges.range("cell", () -> Edges.woollen(1, 5), DarnedSock::look, 0, 1, 8, 1);
    }

    static void promise25_noneWhereNoKindMayBe() {
        Edges.asks("a hole", DarnedSock::new, x -> x.look(0), -1);
        Edges.asks("no kind", () -> {
            DarnedSock x = one(0, 30, 3);
            x.reading(0, 0, 29);
            return x;
        }, x -> x.look(0), -1);
    }

    static void promise25_0WhereLookingIsOfNoUse() {
        DarnedSock x = one(0, 30, 3);
        x.reading(0, 1, 28);
        Edges.due("silk, blue are alike always", x.look(0), 0);
        x.forget();
        x.reading(0, 1, 26);
        x.reading(0, 2, 22);
        Edges.due("one kind", x.look(0), 0);
        Edges.due("all are gone behind a year", one(0, 1, 2).look(0), 0);
    }

    static void promise25_ofLikeOnesTheFirst() {
        Edges.asks("three pairs from the first year on", () -> one(0, 30, 3), x -> x.look(0), 1);
        Edges.asks("four alike, scrap and mothed apart", () -> one(0, 30, 1), x -> x.look(0), 1);
        Edges.asks("behind 2 all are gone again", () -> one(0, 2, 2), x -> x.look(0), 1);
    }

    static void promise25_woolAndLienAreAlikeAlways() {
        DarnedSock x = one(0, 30, 3);
        x.reading(0, 10, 0);
        Edges.due("wool, lien, scrap, mothed may be", x.may(0), WOOL + LIEN + SCRAP + MOTHED);
        Edges.due("two alike behind 1, and no fewer later", x.look(0), 1);
    }

    static void promise25_theYearInWhichTheyAreFewest() {
        DarnedSock x = one(2, 30, 3);
        x.reading(0, 1, 26);
        Edges.due("scrap, mothed: apart behind 2", x.look(0), 2);
        DarnedSock y = new DarnedSock();
        y.sock(2);
        y.wear(0, 3);
        y.darn(0, 2, 0, 30);
        Edges.due("in year 2 pairs behind 1", y.look(0), 1);
        DarnedSock z = one(0, 4, 1);
        z.wear(0, 5);
        Edges.due("silk is left behind 1", z.look(0), 1);
    }

    // ---- promise 26

    private static void bad26(String what, int cells, int i) {
        Edges.refused(what, Edges::lived, x -> x.orders(cells, i), -10, Edges.BAD);
        Edges.refused(what + ", more than 6", Edges::filled, x -> x.orders(cells, i), -10, Edges.BAD);
    }

    /** As many darns, one in each cell, all of one year. */
    private static DarnedSock apart(int darns) {
        DarnedSock x = new DarnedSock();
        for (int c = 0; c < darns; c++) x.darn(c, 0, 0, 30);
        return x;
    }

    static void promise26_cellsAre0To511() {
        Edges.takes("0", Edges::lived, x -> x.orders(0, -1), 1);
        Edges.takes("511", Edges::lived, x -> x.orders(511, -1), 4);
        for (int cells : new int[] {-1, 512, Edges.LOW, Edges.HIGH}) {
            bad26("cells " + cells, cells, -1);
            bad26("cells " + cells, cells, 0);
        }
    }

    static void promise26_iIsNoneOrMore() {
        Edges.takes("-1", Edges::lived, x -> x.orders(511, -1), 4);
        Edges.takes("0", Edges::lived, x -> x.orders(511, 0), 0);
        bad26("-2", 511, -2);
        bad26("the lowest", 511, Edges.LOW);
    }

    static void promise26_notSoManyDarns() {
        Edges.asks("the last", Edges::lived, x -> x.orders(511, 3), 40);
        for (int i : new int[] {4, 5, 6, 7, Edges.HIGH}) Edges.asks("i " + i, Edges::lived, x -> x.orders(511, i), -5);
        Edges.asks("no cells", Edges::lived, x -> x.orders(0, 0), -5);
        Edges.asks("holes", DarnedSock::new, x -> x.orders(511, 0), -5);
        Edges.asks("the last of six", () -> apart(6), x -> x.orders(511, 5), 50);
        Edges.asks("behind the last of six", () -> apart(6), x -> x.orders(511, 6), -5);
    }

    static void promise26_noDarnsIs1() {
        Edges.asks("no cells", Edges::lived, x -> x.orders(0, -1), 1);
        Edges.asks("a hole", Edges::lived, x -> x.orders(2, -1), 1);
        Edges.asks("holes all over", DarnedSock::new, x -> x.orders(511, -1), 1);
    }

    static void promise26_6DarnsAtMost() {
        Edges.asks("6", () -> apart(6), x -> x.orders(511, -1), 720);
        Edges.refused("7", () -> apart(7), x -> x.orders(511, -1), -20, Edges.NO);
        Edges.refused("7, the first", () -> apart(7), x -> x.orders(511, 0), -20, Edges.NO);
        Edges.refused("27", Edges::filled, x -> x.orders(511, -1), -20, Edges.NO);
        Edges.asks("6 of 9", () -> apart(9), x -> x.orders(504, -1), 720);
        Edges.asks("6 of 27", Edges::filled, x -> x.orders(257, -1), 20);
        Edges.refused("9 of 27", Edges::filled, x -> x.orders(273, -1), -20, Edges.NO);
    }

    static void promise26_moreThan6GoesAheadOfNotSoMany() {
        Edges.refused("i 7 of 7", () -> apart(7), x -> x.orders(511, 7), -20, Edges.NO);
        Edges.refused("i huge", Edges::filled, x -> x.orders(511, Edges.HIGH), -20, Edges.NO);
    }

    static void promise26_inHowManyOrders() {
        int[] factorials = {1, 1, 2, 6, 24, 120, 720};
        for (int n = 0; n <= 6; n++) Edges.due(n + " apart", apart(n).orders(511, -1), factorials[n]);
        Edges.due("one cell of three", Edges.filled().orders(256, -1), 1);
        Edges.due("two cells of three", Edges.filled().orders(3, -1), 20);
        Edges.due("three cells of two", Edges.woollen(2, 9).orders(7, -1), 90);
        DarnedSock x = Edges.filled();
        x.unpick(0);
        x.unpick(1);
        x.unpick(1);
        Edges.due("two, one, three", x.orders(7, -1), 60);
    }

    static void promise26_noneAheadOfOneOfAnEarlierYear() {
        DarnedSock x = apart(3);
        x.years(1);
        for (int c = 3; c < 6; c++) x.darn(c, 0, 0, 9);
        Edges.due("three and three", x.orders(511, -1), 36);
        DarnedSock y = new DarnedSock();
        for (int c = 8; c >= 3; c--) {
            y.darn(c, 0, 0, 30);
            y.years(1);
        }
        Edges.due("each of another year", y.orders(511, -1), 1);
        for (int i = 0; i < 6; i++) Edges.due("the " + i + "-th", y.orders(511, i), 10 * (8 - i));
    }

    static void promise26_onlyTheDarnsOfTheCells() {
        DarnedSock x = new DarnedSock();
        for (int c = 0; c < 9; c++) {
            x.darn(c, 0, 0, 30);
            x.years(1);
        }
        for (int c = 0; c < 9; c++) {
            Edges.due("cell " + c, x.orders(1 << c, 0), 10 * c);
            Edges.due("cell " + c + " has no more", x.orders(1 << c, 1), -5);
        }
        Edges.due("the last two", x.orders(384, 1), 80);
        x.darn(0, 0, 0, 30);
        x.darn(8, 0, 0, 30);
        Edges.due("two of the last year", x.orders(257, -1), 2);
        Edges.due("the last of them", x.orders(257, 3), 81);
    }

    static void promise26_theFirstByCellsThenPlaces() {
        int[] due = {0, 1, 2, 80, 81, 82};
        DarnedSock x = Edges.filled();
        for (int i = 0; i < 6; i++) Edges.due("the " + i + "-th", x.orders(257, i), due[i]);
        DarnedSock y = new DarnedSock();
        y.darn(8, 0, 0, 30);
        y.darn(1, 0, 0, 30);
        y.years(1);
        y.darn(0, 0, 0, 30);
        y.darn(1, 0, 0, 30);
        y.years(1);
        y.darn(0, 0, 0, 30);
        y.darn(1, 0, 0, 30);
        int[] row = {10, 80, 0, 11, 1, 12};
        for (int i = 0; i < 6; i++) Edges.due("by years, the " + i + "-th", y.orders(511, i), row[i]);
        Edges.due("by years", y.orders(511, -1), 8);
        Edges.due("cell 1 alone, the second", y.orders(2, 1), 11);
    }

    // ---- promise 27

    private static void odds(String what, DarnedSock x, int m, int c, long above, long below) {
        Edges.due(what, x.odds(0, m, c), 1);
        Edges.fraction(what, x, above, below);
    }

    static void promise27_theCellIs0To8() {
        Edges.range("cell", Edges::lived, (x, n) -> x.odds(n, 1, 1), 0, 1, 8, 1);
    }

    static void promise27_mIs0To8() {
        Edges.range("m", Edges::lived, (x, n) -> x.odds(0, n, 1), 0, 1, 8, 1);
    }

    static void promise27_cIs0To10() {
        Edges.range("c", Edges::lived, (x, n) -> x.odds(0, 1, n), 0, 1, 10, 1);
    }

    static void promise27_aHoleIsOneSurely() {
        for (int m = 0; m <= 8; m += 8) {
            odds("c 0", new DarnedSock(), m, 0, 1, 1);
            odds("c 5", new DarnedSock(), m, 5, 1, 1);
            odds("c 10", new DarnedSock(), m, 10, 1, 1);
        }
    }

    static void promise27_0YearsIsNow() {
        odds("a darn", one(0, 1, 5), 0, 10, 0, 1);
        odds("a hole", new DarnedSock(), 0, 10, 1, 1);
    }

    static void promise27_0Of10NeverAnd10Of10Surely() {
        odds("never", one(0, 1, 5), 8, 0, 0, 1);
        odds("surely", one(0, 1, 5), 8, 10, 1, 1);
        odds("surely, in the last year", one(0, 8, 1), 8, 10, 1, 1);
        odds("not yet", one(0, 9, 1), 8, 10, 0, 1);
    }

    static void promise27_theSmallestAndTheLargestChance() {
        odds("1 of 10 each of 8 years", one(0, 8, 1), 8, 1, 1, 100000000);
        odds("9 of 10 each of 8 years", one(0, 8, 1), 8, 9, 43046721, 100000000);
        odds("not never of 9 of 10", one(0, 1, 1), 8, 9, 99999999, 100000000);
        odds("not never of 1 of 10", one(0, 1, 1), 8, 1, 56953279, 100000000);
    }

    static void promise27_lowestTerms() {
        odds("5 of 10", one(0, 1, 1), 1, 5, 1, 2);
        odds("4 of 10", one(0, 1, 1), 1, 4, 2, 5);
        odds("8 years of 5", one(0, 8, 1), 8, 5, 1, 256);
        odds("2 of 2 years of 2", one(0, 2, 1), 2, 2, 1, 25);
    }

    static void promise27_theYearGoesOnThoughItIsNotWorn() {
        odds("mothed of 2 in year 0 or 1", one(4, 2, 0), 2, 5, 1, 2);
        odds("mothed of 1", one(4, 1, 0), 2, 5, 3, 4);
        odds("mothed of 3: one and two", one(4, 3, 0), 2, 5, 1, 4);
        odds("mothed of 4: two of the years 1, 2, or all three", one(4, 4, 0), 3, 5, 1, 4);
    }

    static void promise27_theOnesUnderItToo() {
        DarnedSock x = one(0, 1, 5);
        x.darn(0, 0, 0, 1);
        x.darn(0, 0, 0, 1);
        odds("three darns, two years", x, 2, 10, 0, 1);
        odds("three darns, three years", x, 3, 10, 1, 1);
        odds("three of three", x, 3, 5, 1, 8);
        odds("three of four", x, 4, 5, 5, 16);
    }

    static void promise27_eachUnderItByItsOwnThread() {
        DarnedSock x = one(0, 3, 1);
        x.darn(0, 0, 0, 2);
        x.darn(0, 0, 0, 1);
        odds("six years of wear", x, 5, 10, 0, 1);
        odds("six years of wear", x, 6, 10, 1, 1);
        odds("six of six", x, 6, 5, 1, 64);
        odds("six of seven", x, 7, 5, 1, 16);
    }

    static void promise27_aMothedOneUnderItByTheYearInWhichItIsUppermost() {
        DarnedSock x = one(4, 4, 0);
        x.darn(0, 2, 0, 1);
        odds("a scrap of 1 in year 0, mothed of 4 in years 1, 2", x, 3, 5, 1, 8);
        DarnedSock y = one(4, 2, 0);
        y.darn(0, 2, 0, 1);
        odds("a scrap of 1, then mothed of 2 in a year of no 3", y, 2, 5, 1, 4);
        odds("behind 3 years: two of them at least", y, 3, 5, 1, 2);
        odds("behind 4 years: not the years 2 and 3 alone, nor 1 and 3, nor 0 and 3", y, 4, 5, 1, 2);
    }

    static void promise27_ofEachCell() {
        for (int c = 0; c < 9; c++) {
            DarnedSock x = new DarnedSock();
            x.darn(c, 0, 0, 2);
            for (int other = 0; other < 9; other++) {
                x.odds(other, 2, 5);
                Edges.fraction("cell " + other, x, 1, other == c ? 4 : 1);
            }
        }
    }

    static void promise27_badLeavesTheFraction() {
        DarnedSock x = Edges.lived();
        x.odds(9, 0, 0);
        x.odds(0, 9, 0);
        x.odds(0, 0, 11);
        Edges.fraction("as it was", x, 11, 41);
    }

    static void promise27_changesTheFractionAlone() {
        DarnedSock x = Edges.lived();
        x.odds(0, 8, 5);
        x.odds(8, 8, 5);
        x.share(1);
        Edges.due("all else", Edges.insides(x).equals(Edges.insides(Edges.lived())) ? 1 : 0, 1);
    }

    // ---- promise 28

    /** Wool alone: a cell is a hole when what it wore is as much as its thread. */
    private static int drawnByHand(int seed, int m, int thread) {
        java.math.BigInteger x = java.math.BigInteger.valueOf(seed);
        int[] worn = new int[9];
        for (int year = 0; year < m; year++) {
            for (int c = 0; c < 9; c++) {
                x = x.multiply(java.math.BigInteger.valueOf(1103515245)).add(java.math.BigInteger.valueOf(12345));
                x = x.mod(java.math.BigInteger.valueOf(2147483648L));
                worn[c] += x.intValue() / 65536 % 6;
            }
        }
        int holes = 0;
        for (int c = 0; c < 9; c++) if (worn[c] >= thread) holes++;
        return holes;
    }

    static void promise28_theSeedIs0To999999() {
        Edges.range("seed", () -> Edges.woollen(1, 3), (x, n) -> x.drawn(n, 1), 0, drawnByHand(0, 1, 3), 999999, drawnByHand(999999, 1, 3));
    }

    static void promise28_mIs0To20() {
        Edges.range("m", () -> Edges.woollen(1, 30), (x, n) -> x.drawn(5, n), 0, 0, 20, drawnByHand(5, 20, 30));
    }

    static void promise28_bySeedsAndYears() {
        int seen = 0;
        for (int seed : new int[] {0, 1, 7, 65535, 65536, 123456, 999998, 999999}) {
            for (int thread = 1; thread <= 30; thread += 7) {
                DarnedSock x = Edges.woollen(1, thread);
                for (int m = 0; m <= 20; m++) {
                    int due = drawnByHand(seed, m, thread);
                    Edges.due("seed " + seed + " thread " + thread + " years " + m, x.drawn(seed, m), due);
                    if (due > 0 && due < 9) seen++;
                }
            }
        }
        Edges.due("some of them tell cells apart", seen > 50 ? 1 : 0, 1);
    }

    static void promise28_howCellsWearIsOfNoMatter() {
        DarnedSock x = Edges.woollen(1, 15);
        for (int c = 0; c < 9; c++) x.wear(c, c % 6);
        Edges.due("drawn", x.drawn(77, 6), drawnByHand(77, 6, 15));
    }

    static void promise28_0YearsIsNow() {
        Edges.asks("holes all over", DarnedSock::new, x -> x.drawn(0, 0), 9);
        Edges.asks("seven", Edges::lived, x -> x.drawn(999999, 0), 7);
        Edges.asks("none", Edges::filled, x -> x.drawn(1, 0), 0);
    }

    static void promise28_changesNothing() {
        Edges.asks("a hole stays one", DarnedSock::new, x -> x.drawn(5, 20), 9);
        DarnedSock x = Edges.lived();
        x.drawn(3, 20);
        Edges.due("all else", Edges.insides(x).equals(Edges.insides(Edges.lived())) ? 1 : 0, 1);
    }
}
