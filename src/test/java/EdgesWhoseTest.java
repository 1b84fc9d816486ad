/** Edges of promises 11 to 17: what is told of a darn and a cell, and whose the sock is. */
public final class EdgesWhoseTest {
    public static void main(String[] args) {
        Edges.runAll(EdgesWhoseTest.class);
    }

    private static DarnedSock one(int kind, int thread) {
        DarnedSock x = new DarnedSock();
        x.darn(0, kind, 0, thread);
        return x;
    }

    /** A darn of wool for each family, in cells 0, 1, 2; 0: none. */
    private static DarnedSock threads(int a, int b, int c) {
        DarnedSock x = new DarnedSock();
        if (a > 0) x.darn(0, 0, 0, a);
        if (b > 0) x.darn(1, 0, 1, b);
        if (c > 0) x.darn(2, 0, 2, c);
        return x;
    }

    // ---- promise 11

    static void promise11_theCellIs0To8() {
        Edges.range("cell", () -> Edges.woollen(1, 7), (x, n) -> x.of(n, 0, 2), 0, 7, 8, 7);
    }

    static void promise11_thePlaceIs0To2() {
        Edges.range("place", Edges::lived, (x, n) -> x.of(0, n, 0), 0, 0, 2, 3);
    }

    static void promise11_whatIs0To5() {
        Edges.range("what", Edges::lived, (x, n) -> x.of(0, 2, n), 0, 3, 5, 1);
        int[] told = {3, 2, 8, 5, 16, 1};
        for (int what = 0; what <= 5; what++) {
            int w = what;
            Edges.asks("what " + what, Edges::lived, x -> x.of(0, 2, w), told[what]);
        }
    }

    static void promise11_noneWhereThereIsNoDarn() {
        for (int darns = 0; darns <= 3; darns++) {
            DarnedSock x = new DarnedSock();
            for (int i = 0; i < darns; i++) x.darn(3, 1, 2, 4);
            for (int place = 0; place < 3; place++) {
                for (int what = 0; what <= 5; what++) {
                    Edges.due(darns + " darns, place " + place + ", what " + what, x.of(3, place, what) == -1 ? 1 : 0, place < darns ? 0 : 1);
                }
            }
            Edges.status("none is no refusal", x, 0, 0, 0);
        }
        Edges.asks("none", Edges::lived, x -> x.of(8, 0, 4), -1);
        Edges.asks("none", Edges::lived, x -> x.of(4, 1, 5), -1);
    }

    static void promise11_badGoesAheadOfNone() {
        Edges.bad("what", DarnedSock::new, x -> x.of(0, 0, 6));
        Edges.bad("place", DarnedSock::new, x -> x.of(0, 3, 0));
        Edges.bad("cell", DarnedSock::new, x -> x.of(9, 0, 0));
    }

    static void promise11_noneWhereTheDarnIsGone() {
        DarnedSock x = one(0, 1);
        x.years(1);
        Edges.due("gone", x.of(0, 0, 2), -1);
        DarnedSock y = one(0, 1);
        y.unpick(0);
        Edges.due("unpicked", y.of(0, 0, 2), -1);
    }

    static void promise11_woolCountsItsThread() {
        Edges.due("1", one(0, 1).of(0, 0, 4), 1);
        Edges.due("30", one(0, 30).of(0, 0, 4), 30);
    }

    static void promise11_silkCountsTwice() {
        Edges.due("1", one(1, 1).of(0, 0, 4), 2);
        Edges.due("30", one(1, 30).of(0, 0, 4), 60);
    }

    static void promise11_scrapAndMothedCountHalfCut() {
        for (int kind = 2; kind <= 4; kind += 2) {
            int[] counts = {0, 1, 1, 2};
            for (int thread = 1; thread <= 4; thread++) Edges.due("thread " + thread, one(kind, thread).of(0, 0, 4), counts[thread - 1]);
            Edges.due("29", one(kind, 29).of(0, 0, 4), 14);
            Edges.due("30", one(kind, 30).of(0, 0, 4), 15);
        }
    }

    static void promise11_blueCounts3MoreFrom10YearsOn() {
        DarnedSock x = one(3, 30);
        x.wear(0, 0);
        Edges.due("now", x.of(0, 0, 4), 60);
        x.years(9);
        Edges.due("9 years ago", x.of(0, 0, 4), 60);
        x.years(1);
        Edges.due("10 years ago", x.of(0, 0, 4), 63);
        x.years(1);
        Edges.due("11 years ago", x.of(0, 0, 4), 63);
        x.undo();
        x.undo();
        Edges.due("9 again", x.of(0, 0, 4), 60);
        DarnedSock late = new DarnedSock();
        late.sock(99);
        late.darn(0, 3, 0, 30);
        Edges.due("put in in year 99", late.of(0, 0, 4), 60);
        DarnedSock silk = one(1, 30);
        silk.wear(0, 0);
        silk.years(10);
        Edges.due("silk does not", silk.of(0, 0, 4), 60);
    }

    static void promise11_aLienThatIsTheLowestCountsAsWool() {
        Edges.due("1", one(5, 1).of(0, 0, 4), 1);
        Edges.due("30", one(5, 30).of(0, 0, 4), 30);
    }

    static void promise11_aLienCountsHalfCutOfTheOneRightUnderIt() {
        int[][] cases = {{0, 1, 0}, {0, 2, 1}, {0, 3, 1}, {0, 30, 15}, {1, 1, 1}, {1, 30, 30}, {2, 1, 0}, {2, 3, 0}, {2, 4, 1}, {4, 5, 1}, {5, 3, 1}};
        for (int[] one : cases) {
            DarnedSock x = one(one[0], one[1]);
            x.darn(0, 5, 1, 10);
            Edges.due("over kind " + one[0] + " of " + one[1], x.of(0, 1, 4), 10 + one[2]);
        }
    }

    static void promise11_aLienOverALienOverOne() {
        DarnedSock x = one(1, 30);
        x.darn(0, 5, 1, 1);
        x.darn(0, 5, 2, 30);
        Edges.due("the lower lien", x.of(0, 1, 4), 31);
        Edges.due("the upper lien", x.of(0, 2, 4), 45);
        DarnedSock y = one(1, 30);
        y.darn(0, 0, 1, 1);
        y.darn(0, 5, 2, 30);
        Edges.due("not the lowest, the one right under it", y.of(0, 2, 4), 30);
    }

    static void promise11_aLienOverBlueOf10Years() {
        DarnedSock x = one(3, 10);
        x.darn(0, 5, 0, 30);
        x.wear(0, 0);
        x.years(9);
        Edges.due("9 years", x.of(0, 1, 4), 40);
        x.years(1);
        Edges.due("10 years", x.of(0, 1, 4), 41);
    }

    static void promise11_whatItWouldLoseWereItTheUppermost() {
        int[][] due = {{0, 1, 2, 3, 4, 5}, {0, 1, 1, 2, 2, 3}, {1, 2, 3, 4, 5, 6}, {0, 1, 1, 2, 2, 3}, {1, 2, 3, 4, 5, 6}, {0, 1, 2, 3, 4, 5}};
        for (int year = 0; year < 4; year++) {
            for (int kind = 0; kind < 6; kind++) {
                DarnedSock x = new DarnedSock();
                x.sock(year);
                x.darn(8, kind, 0, 1);
                x.darn(8, 0, 0, 1);
                for (int w = 0; w <= 5; w++) {
                    x.wear(8, w);
                    int times = kind == 4 && year % 3 != 0 ? 2 : 1;
                    Edges.due("kind " + kind + " wears " + w + " year " + year, x.of(8, 0, 5), times * due[kind][w]);
                }
            }
        }
    }

    // ---- promise 12

    static void promise12_theCellIs0To8() {
        Edges.range("cell", Edges::lived, (x, n) -> x.cell(n, 0), 0, 2, 8, 0);
    }

    static void promise12_whatIs0To1() {
        Edges.range("what", Edges::lived, (x, n) -> x.cell(0, n), 0, 2, 1, 3);
    }

    static void promise12_howManyDarns0To3() {
        DarnedSock x = new DarnedSock();
        for (int i = 0; i <= 3; i++) {
            Edges.due("darns", x.cell(8, 1), i);
            x.darn(8, 0, 0, 1);
        }
        Edges.due("three at most", x.cell(8, 1), 3);
        Edges.due("another cell", x.cell(0, 1), 0);
    }

    // ---- promise 13

    static void promise13_theFamilyIs0To2() {
        Edges.range("family", Edges::lived, (x, n) -> x.claims(n, 0), 0, 10, 2, 20);
    }

    static void promise13_theLawIs0To3() {
        Edges.range("law", Edges::lived, (x, n) -> x.claims(2, n), 0, 20, 3, 2);
    }

    static void promise13_aFamilyWithoutDarnsClaims0() {
        DarnedSock x = one(0, 30);
        for (int law = 0; law < 4; law++) {
            Edges.due("family 1, law " + law, x.claims(1, law), 0);
            Edges.due("family 2, law " + law, x.claims(2, law), 0);
        }
    }

    static void promise13_threadOfAllItsDarns() {
        DarnedSock x = new DarnedSock();
        for (int c = 0; c < 9; c++) {
            x.darn(c, 1, 2, 30);
            x.darn(c, 5, 2, 30);
            x.darn(c, 5, 2, 30);
        }
        Edges.due("27 darns", x.claims(2, 0), 9 * (60 + 60 + 60));
        Edges.due("another", x.claims(1, 0), 0);
        DarnedSock y = one(1, 30);
        y.darn(0, 5, 1, 30);
        Edges.due("a lien's half is its own family's", y.claims(1, 0), 60);
        Edges.due("and leaves the one under it", y.claims(0, 0), 60);
    }

    static void promise13_cellsByTheUppermostAlone() {
        DarnedSock x = Edges.woollen(2, 5);
        Edges.due("all", x.claims(0, 1), 9);
        x.darn(8, 0, 1, 1);
        Edges.due("but one", x.claims(0, 1), 8);
        Edges.due("the other", x.claims(1, 1), 1);
        x.years(1);
        Edges.due("again behind a year", x.claims(0, 1), 9);
    }

    static void promise13_eachOfTheEightLines() {
        int[][] lines = {{0, 1, 2}, {3, 4, 5}, {6, 7, 8}, {0, 3, 6}, {1, 4, 7}, {2, 5, 8}, {0, 4, 8}, {2, 4, 6}};
        for (int[] line : lines) {
            DarnedSock x = new DarnedSock();
            x.darn(line[0], 0, 2, 1);
            x.darn(line[1], 0, 2, 1);
            Edges.due("two of three", x.claims(2, 2), 0);
            x.darn(line[2], 0, 2, 1);
            Edges.due("three", x.claims(2, 2), 1);
            Edges.due("another family", x.claims(0, 2), 0);
            x.darn(line[2], 0, 0, 1);
            Edges.due("one is under another's", x.claims(2, 2), 0);
        }
    }

    static void promise13_noOtherThreeCellsAreALine() {
        int lines = 0;
        for (int bits = 0; bits < 512; bits++) {
            if (Integer.bitCount(bits) != 3) continue;
            DarnedSock x = new DarnedSock();
            for (int c = 0; c < 9; c++) if ((bits >> c & 1) != 0) x.darn(c, 0, 1, 1);
            lines += x.claims(1, 2);
        }
        Edges.due("lines of three cells", lines, 8);
        Edges.due("lines of nine cells", Edges.woollen(1, 1).claims(0, 2), 8);
        Edges.due("holes are nobody's lines", new DarnedSock().claims(0, 2), 0);
    }

    static void promise13_firstIsYearsAgoAnd1() {
        DarnedSock x = new DarnedSock();
        x.sock(50);
        Edges.due("none", x.claims(0, 3), 0);
        x.darn(8, 0, 0, 30);
        Edges.due("this year", x.claims(0, 3), 1);
        x.years(1);
        Edges.due("a year ago", x.claims(0, 3), 2);
        x.years(20);
        Edges.due("21 years ago", x.claims(0, 3), 22);
        x.darn(8, 0, 0, 1);
        x.darn(0, 0, 0, 1);
        Edges.due("the oldest", x.claims(0, 3), 22);
        x.unpick(8);
        x.unpick(8);
        Edges.due("the oldest is gone", x.claims(0, 3), 1);
    }

    // ---- promise 14

    static void promise14_theLawIs0To3() {
        Edges.range("law", Edges::lived, (x, n) -> x.owner(n, 0), 0, 2, 3, -1);
    }

    static void promise14_mIs0To40() {
        Edges.range("m", () -> threads(0, 30, 29), (x, n) -> x.owner(0, n), 0, 1, 40, -1);
        DarnedSock x = threads(0, 30, 0);
        x.darn(1, 0, 1, 11);
        Edges.due("behind 40 it is still there", x.owner(1, 40), 1);
        x.undo();
        x.darn(1, 0, 1, 10);
        Edges.due("behind 39 it is still there", x.owner(1, 39), 1);
        Edges.due("behind 40 it is gone", x.owner(1, 40), -1);
    }

    static void promise14_moreThanEachOtherOne() {
        int[][] cases = {
            {1, 0, 0, 0}, {0, 1, 0, 1}, {0, 0, 1, 2}, {2, 1, 1, 0}, {1, 2, 1, 1}, {1, 1, 2, 2}, {3, 2, 1, 0}, {1, 3, 2, 1}, {2, 1, 3, 2},
            {1, 1, 0, -1}, {1, 0, 1, -1}, {0, 1, 1, -1}, {2, 2, 1, -1}, {2, 1, 2, -1}, {1, 2, 2, -1}, {1, 1, 1, -1}, {0, 0, 0, -1}
        };
        for (int[] one : cases) {
            Edges.asks(one[0] + " " + one[1] + " " + one[2], () -> threads(one[0], one[1], one[2]), x -> x.owner(0, 0), one[3]);
        }
    }

    static void promise14_noneWhereNothingIsClaimed() {
        for (int law = 0; law < 4; law++) {
            int by = law;
            Edges.asks("law " + law, DarnedSock::new, x -> x.owner(by, 0), -1);
            Edges.asks("law " + law, DarnedSock::new, x -> x.owner(by, 40), -1);
        }
        Edges.asks("a scrap of 1 counts 0", () -> one(2, 1), x -> x.owner(0, 0), -1);
        Edges.asks("but it is a cell", () -> one(2, 1), x -> x.owner(1, 0), 0);
    }

    static void promise14_behindMYearsOfThisYear() {
        DarnedSock x = new DarnedSock();
        x.wear(0, 0);
        x.wear(1, 0);
        x.darn(0, 3, 0, 10);
        x.darn(1, 0, 1, 22);
        Edges.due("behind 9", x.owner(0, 9), 1);
        Edges.due("behind 10 blue counts 3 more", x.owner(0, 10), 0);
        x.years(1);
        Edges.due("a year later, behind 8", x.owner(0, 8), 1);
        Edges.due("a year later, behind 9", x.owner(0, 9), 0);
    }

    static void promise14_firstBehindYears() {
        DarnedSock x = threads(3, 5, 0);
        Edges.due("two are as old", x.owner(3, 2), -1);
        Edges.due("one is gone", x.owner(3, 3), 1);
        Edges.due("both are gone", x.owner(3, 5), -1);
    }

    // ---- promise 15

    static void promise15_theFamilyIs0To2() {
        Edges.range("family", Edges::lived, DarnedSock::laws, 0, 0, 2, 3);
    }

    static void promise15_allLawsAndNone() {
        Edges.due("all", Edges.woollen(1, 1).laws(0), 15);
        Edges.due("none of another", Edges.woollen(1, 1).laws(1), 0);
        Edges.due("none of holes", new DarnedSock().laws(0), 0);
        for (int f = 0; f < 3; f++) Edges.due("none where all are alike", threads(5, 5, 5).laws(f), 0);
    }

    static void promise15_eachLawIsABitOfItsOwn() {
        DarnedSock x = new DarnedSock();
        x.darn(8, 0, 2, 2);
        x.years(1);
        x.darn(8, 0, 1, 1);
        for (int c : new int[] {3, 4, 7}) x.darn(c, 2, 1, 2);
        for (int c : new int[] {0, 1, 2}) x.darn(c, 0, 0, 9);
        Edges.due("thread and lines", x.laws(0), 1 + 4);
        Edges.due("cells", x.laws(1), 2);
        Edges.due("first", x.laws(2), 8);
    }

    // ---- promise 16

    static void promise16_theFamilyIs0To2() {
        Edges.range("family", Edges::lived, DarnedSock::share, 0, 1, 2, 1);
    }

    static void promise16_badLeavesTheFraction() {
        DarnedSock x = Edges.lived();
        x.share(3);
        x.share(-1);
        Edges.fraction("as it was", x, 11, 41);
    }

    static void promise16_0By1IfNothingIsClaimed() {
        DarnedSock x = Edges.lived();
        x.sock(0);
        Edges.due("share", x.share(0), 1);
        Edges.fraction("holes", x, 0, 1);
        DarnedSock scrap = one(2, 1);
        Edges.due("share", scrap.share(0), 1);
        Edges.fraction("a scrap of 1", scrap, 0, 1);
    }

    static void promise16_0By1ForOneThatClaimsNothing() {
        DarnedSock x = threads(6, 4, 0);
        x.share(0);
        Edges.due("share", x.share(2), 1);
        Edges.fraction("nothing of 10", x, 0, 1);
    }

    static void promise16_1By1ForOneThatClaimsAll() {
        DarnedSock x = threads(0, 30, 0);
        x.share(1);
        Edges.fraction("all", x, 1, 1);
    }

    static void promise16_lowestTerms() {
        DarnedSock x = threads(6, 4, 10);
        x.share(0);
        Edges.fraction("6 of 20", x, 3, 10);
        x.share(1);
        Edges.fraction("4 of 20", x, 1, 5);
        x.share(2);
        Edges.fraction("10 of 20", x, 1, 2);
        DarnedSock y = threads(7, 11, 13);
        y.share(1);
        Edges.fraction("11 of 31", y, 11, 31);
    }

    static void promise16_changesTheFractionAlone() {
        Edges.asks("share", Edges::lived, x -> x.share(1), 1);
    }

    // ---- promise 17

    static void promise17_theLawIs0To3() {
        Edges.range("law", () -> threads(5, 5, 0), DarnedSock::twos, 0, 0, 3, 0);
    }

    static void promise17_0IsNow() {
        Edges.asks("thread", () -> threads(5, 5, 0), x -> x.twos(0), 0);
        Edges.asks("cells", () -> threads(5, 9, 0), x -> x.twos(1), 0);
        Edges.asks("first", () -> threads(5, 9, 0), x -> x.twos(3), 0);
        Edges.asks("three", () -> threads(5, 5, 5), x -> x.twos(0), 0);
    }

    static void promise17_noneWhereNothingIsClaimed() {
        for (int law = 0; law < 4; law++) {
            int by = law;
            Edges.asks("law " + law, DarnedSock::new, x -> x.twos(by), -1);
        }
        Edges.asks("a scrap of 1, by thread", () -> one(2, 1), x -> x.twos(0), -1);
        Edges.asks("two scraps of 1, by thread", () -> {
            DarnedSock x = one(2, 1);
            x.darn(1, 2, 1, 1);
            return x;
        }, x -> x.twos(0), -1);
        Edges.asks("no lines", () -> threads(5, 5, 0), x -> x.twos(2), -1);
    }

    static void promise17_noneWhereOneOwnsItTillAllIsGone() {
        for (int law = 0; law < 4; law++) {
            int by = law;
            Edges.asks("law " + law, () -> Edges.woollen(1, 30), x -> x.twos(by), -1);
        }
    }

    /** Family 1 has 60 in a cell that wears 1; the other one has so many in a cell that wears 0. */
    private static DarnedSock meeting(int thread) {
        DarnedSock x = new DarnedSock();
        x.wear(0, 0);
        x.darn(0, 0, 0, thread);
        x.darn(1, 0, 1, 30);
        x.darn(1, 0, 1, 30);
        return x;
    }

    static void promise17_41YearsNowAmongThem() {
        Edges.asks("behind 30", () -> meeting(30), x -> x.twos(0), 30);
        Edges.asks("behind 39", () -> meeting(21), x -> x.twos(0), 39);
        Edges.asks("behind 40", () -> meeting(20), x -> x.twos(0), 40);
        Edges.asks("behind 41: none", () -> meeting(19), x -> x.twos(0), -1);
    }

    static void promise17_linesOfTwo() {
        DarnedSock x = new DarnedSock();
        for (int c = 0; c < 3; c++) x.darn(c, 0, 0, 5);
        for (int c = 6; c < 9; c++) x.darn(c, 0, 1, 9);
        Edges.due("a line each", x.twos(2), 0);
        x.unpick(8);
        Edges.due("a line of one", x.twos(2), -1);
    }
}
