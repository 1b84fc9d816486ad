/** Edges of promises 18 to 21: how long the sock is whole, which holes there are when, where threads had best go. */
public final class EdgesLastsTest {
    public static void main(String[] args) {
        Edges.runAll(EdgesLastsTest.class);
    }

    /** Each cell has wool of 30 and over it one of so much: as many years as both together. */
    private static DarnedSock lasting(int years) {
        DarnedSock x = Edges.woollen(1, 30);
        for (int c = 0; c < 9; c++) x.darn(c, 0, 0, years - 30);
        return x;
    }

    /** All cells wear 0 and have wool, but for some (bits): those are holes and wear 1. */
    private static DarnedSock holed(int cells) {
        DarnedSock x = new DarnedSock();
        for (int c = 0; c < 9; c++) {
            if ((cells >> c & 1) != 0) continue;
            x.darn(c, 0, 0, 1);
            x.wear(c, 0);
        }
        return x;
    }

    /** All cells have three darns, but for some (bits) that have one less or, if bare, one alone. */
    private static DarnedSock roomIn(int cells, boolean bare) {
        DarnedSock x = new DarnedSock();
        for (int c = 0; c < 9; c++) {
            int darns = (cells >> c & 1) == 0 ? 3 : bare ? 1 : 2;
            for (int i = 0; i < darns; i++) x.darn(c, 0, 0, 30);
        }
        return x;
    }

    // ---- promise 18

    static void promise18_0WhereThereIsAHoleNow() {
        Edges.asks("holes all over", DarnedSock::new, DarnedSock::whole, 0);
        for (int c = 0; c < 9; c++) {
            int cell = c;
            Edges.asks("cell " + c, () -> holed(1 << cell), DarnedSock::whole, 0);
        }
    }

    static void promise18_theFirstYearBehindWhichThereIsAHole() {
        Edges.asks("1", () -> Edges.woollen(1, 1), DarnedSock::whole, 1);
        Edges.asks("30", () -> Edges.woollen(1, 30), DarnedSock::whole, 30);
        for (int c = 0; c < 9; c++) {
            int cell = c;
            Edges.asks("cell " + c, () -> {
                DarnedSock x = Edges.woollen(1, 30);
                x.wear(cell, 5);
                return x;
            }, DarnedSock::whole, 6);
        }
    }

    static void promise18_40And41() {
        Edges.asks("39", () -> lasting(39), DarnedSock::whole, 39);
        Edges.asks("40", () -> lasting(40), DarnedSock::whole, 40);
        Edges.asks("41 is all the time", () -> lasting(41), DarnedSock::whole, 41);
        Edges.asks("42 is all the time", () -> lasting(42), DarnedSock::whole, 41);
        Edges.asks("for ever", () -> holed(0), DarnedSock::whole, 41);
        Edges.asks("full", Edges::filled, DarnedSock::whole, 41);
    }

    static void promise18_eachDarnHasAYearOfItsOwn() {
        DarnedSock x = Edges.woollen(3, 1);
        for (int c = 0; c < 9; c++) x.wear(c, 5);
        Edges.due("three of 1", x.whole(), 3);
        DarnedSock y = Edges.woollen(2, 6);
        for (int c = 0; c < 9; c++) y.wear(c, 5);
        Edges.due("two of 6", y.whole(), 4);
    }

    static void promise18_mothedByYearsToCome() {
        int[] due = {3, 2, 3};
        for (int year = 0; year < 3; year++) {
            DarnedSock x = new DarnedSock();
            x.sock(year);
            for (int c = 0; c < 9; c++) x.darn(c, 4, 0, 8);
            Edges.due("in year " + year, x.whole(), due[year]);
        }
    }

    // ---- promise 19

    static void promise19_mIs0To40() {
        Edges.range("m", () -> lasting(40), DarnedSock::holes, 0, 0, 40, 511);
        Edges.asks("39", () -> lasting(40), x -> x.holes(39), 0);
        Edges.asks("not yet", () -> lasting(41), x -> x.holes(40), 0);
    }

    static void promise19_aBitForEachCell() {
        for (int bits = 0; bits < 512; bits += 73) {
            int cells = bits;
            Edges.asks("now " + bits, () -> holed(cells), x -> x.holes(0), bits);
            Edges.asks("then " + bits, () -> holed(cells), x -> x.holes(40), bits);
        }
        for (int c = 0; c < 9; c++) Edges.due("cell " + c, holed(1 << c).holes(0), 1 << c);
    }

    static void promise19_behindTheYearInWhichTheLastIsGone() {
        DarnedSock x = new DarnedSock();
        for (int c = 0; c < 9; c++) x.darn(c, 0, 0, c + 1);
        for (int m = 0; m <= 9; m++) Edges.due("behind " + m, x.holes(m), (1 << m) - 1);
    }

    // ---- promise 20

    static void promise20_nIs1To30() {
        Edges.range("n", () -> holed(16), (x, n) -> x.best(n, 0, 1), 1, 1, 30, 30);
    }

    static void promise20_theKindIs0To5() {
        Edges.range("kind", () -> holed(16), (x, n) -> x.best(8, n, 1), 0, 8, 5, 8);
        int[] due = {8, 8, 4, 8, 3, 8};
        for (int kind = 0; kind < 6; kind++) Edges.due("kind " + kind, holed(16).best(8, kind, 1), due[kind]);
    }

    static void promise20_whatIs0To1() {
        Edges.range("what", () -> holed(16), (x, n) -> x.best(9, 0, n), 0, 4, 1, 9);
    }

    static void promise20_ofLikeOnesTheLeast() {
        Edges.asks("all alike", () -> Edges.woollen(1, 9), x -> x.best(30, 0, 0), 0);
        Edges.asks("two are worst", () -> {
            DarnedSock x = Edges.woollen(1, 10);
            x.wear(5, 2);
            x.wear(7, 2);
            return x;
        }, x -> x.best(30, 0, 0), 0);
        Edges.asks("cell 0 is full", () -> {
            DarnedSock x = Edges.woollen(1, 10);
            x.darn(0, 0, 0, 1);
            x.darn(0, 0, 0, 1);
            return x;
        }, x -> x.best(30, 0, 0), 1);
    }

    static void promise20_theWorstCellWhereThereIsOne() {
        for (int c = 0; c < 9; c++) {
            int cell = c;
            Edges.asks("cell " + c, () -> holed(1 << cell), x -> x.best(7, 0, 0), cell);
            Edges.asks("cell " + c, () -> holed(1 << cell), x -> x.best(7, 0, 1), 7);
        }
    }

    static void promise20_twoHolesAreNotMended() {
        Edges.asks("which", () -> holed(96), x -> x.best(30, 0, 0), 0);
        Edges.asks("how long", () -> holed(96), x -> x.best(30, 0, 1), 0);
    }

    static void promise20_aCellOfThreeDarnsIsNone() {
        Edges.asks("two darns are few enough", () -> roomIn(256, false), x -> x.best(30, 0, 0), 8);
        Edges.asks("one darn", () -> roomIn(16, true), x -> x.best(30, 0, 0), 4);
        DarnedSock x = roomIn(24, false);
        x.wear(0, 5);
        Edges.due("the worst one is full", x.best(30, 0, 0), 3);
        Edges.due("it lasts as long as that", x.best(30, 0, 1), 18);
    }

    static void promise20_noneWhereEachHas3Darns() {
        Edges.asks("which", Edges::filled, x -> x.best(1, 0, 0), -1);
        Edges.asks("how long", Edges::filled, x -> x.best(30, 5, 1), -1);
    }

    static void promise20_badGoesAheadOfNone() {
        Edges.bad("n", Edges::filled, x -> x.best(0, 0, 0));
        Edges.bad("kind", Edges::filled, x -> x.best(1, 6, 0));
        Edges.bad("what", Edges::filled, x -> x.best(1, 0, 2));
    }

    static void promise20_40And41() {
        DarnedSock x = lasting(40);
        for (int c = 0; c < 8; c++) x.darn(c, 0, 0, 30);
        x.unpick(8);
        Edges.due("39", x.best(9, 0, 1), 39);
        Edges.due("40", x.best(10, 0, 1), 40);
        Edges.due("41: all the time", x.best(11, 0, 1), 41);
        Edges.due("42: all the time", x.best(12, 0, 1), 41);
    }

    static void promise20_itIsWornAheadOfTheOthers() {
        DarnedSock x = Edges.woollen(1, 30);
        x.unpick(6);
        x.darn(6, 0, 0, 6);
        x.wear(6, 5);
        Edges.due("1 lasts a year, 6 two more", x.best(1, 0, 1), 3);
        Edges.due("which", x.best(1, 0, 0), 6);
        Edges.due("silk of 6 lasts two, 6 two more", x.best(6, 1, 1), 4);
    }

    static void promise20_putInNow() {
        int[] due = {3, 2, 3};
        for (int year = 0; year < 3; year++) {
            DarnedSock x = holed(4);
            for (int i = 0; i < year; i++) x.years(1);
            Edges.due("mothed of 8 in year " + year, x.best(8, 4, 1), due[year]);
        }
    }

    // ---- promise 21

    static void promise21_nIs2To30() {
        Edges.range("n", () -> holed(136), (x, n) -> x.split(n, 0, 2), 2, 1, 30, 15);
    }

    static void promise21_theKindIs0To5() {
        Edges.range("kind", () -> holed(136), (x, n) -> x.split(8, n, 2), 0, 4, 5, 4);
        int[] due = {4, 4, 2, 4, 2, 4};
        for (int kind = 0; kind < 6; kind++) Edges.due("kind " + kind, holed(136).split(8, kind, 2), due[kind]);
    }

    static void promise21_whatIs0To2() {
        Edges.range("what", () -> holed(136), (x, n) -> x.split(9, 0, n), 0, 37, 2, 4);
        Edges.asks("i", () -> holed(136), x -> x.split(9, 0, 1), 4);
    }

    static void promise21_1AtLeastEach() {
        Edges.asks("i of 2", () -> holed(3), x -> x.split(2, 0, 1), 1);
        Edges.asks("which", () -> holed(3), x -> x.split(2, 0, 0), 1);
        DarnedSock x = holed(3);
        x.wear(0, 5);
        x.wear(1, 5);
        Edges.due("i of 3, where more is of no use", x.split(3, 0, 1), 1);
        DarnedSock y = holed(3);
        y.wear(1, 0);
        Edges.due("all but 1 into the lesser", y.split(30, 0, 1), 29);
        Edges.due("how long", y.split(30, 0, 2), 29);
        DarnedSock z = holed(3);
        z.wear(0, 0);
        Edges.due("all but 1 into the other", z.split(30, 0, 1), 1);
        Edges.due("how long", z.split(30, 0, 2), 29);
    }

    static void promise21_iGoesIntoTheLesserTheRestIntoTheOther() {
        DarnedSock x = holed(132);
        x.wear(2, 4);
        Edges.due("the lesser wears more: 5 and 5 last 2 and 5", x.split(10, 0, 1), 5);
        Edges.due("how long", x.split(10, 0, 2), 2);
        x.wear(2, 1);
        x.wear(7, 4);
        Edges.due("the other wears more: 2 and 8 last 2 and 2", x.split(10, 0, 1), 2);
        Edges.due("how long", x.split(10, 0, 2), 2);
    }

    static void promise21_ofLikeOnesTheLeastLesserOtherI() {
        Edges.asks("all alike: cells 0 and 1", () -> Edges.woollen(1, 9), x -> x.split(30, 0, 0), 1);
        Edges.asks("all alike: i", () -> Edges.woollen(1, 9), x -> x.split(30, 0, 1), 1);
        Edges.asks("one hole: 0 and it", () -> holed(64), x -> x.split(30, 0, 0), 6);
        Edges.asks("one hole: i", () -> holed(64), x -> x.split(30, 0, 1), 1);
        Edges.asks("one hole: how long", () -> holed(64), x -> x.split(30, 0, 2), 29);
        Edges.asks("cell 0 is the hole", () -> holed(1), x -> x.split(30, 0, 0), 1);
        Edges.asks("cell 0 is the hole: i", () -> holed(1), x -> x.split(30, 0, 1), 29);
    }

    static void promise21_threeHolesAreNotMended() {
        Edges.asks("which", () -> holed(448), x -> x.split(30, 0, 0), 1);
        Edges.asks("i", () -> holed(448), x -> x.split(30, 0, 1), 1);
        Edges.asks("how long", () -> holed(448), x -> x.split(30, 0, 2), 0);
    }

    static void promise21_everyTwoCells() {
        for (int a = 0; a < 9; a++) {
            for (int b = a + 1; b < 9; b++) {
                Edges.due("holes " + a + " and " + b, holed(1 << a | 1 << b).split(6, 0, 0), 10 * a + b);
                Edges.due("room in " + a + " and " + b, roomIn(1 << a | 1 << b, false).split(6, 0, 0), 10 * a + b);
            }
        }
    }

    static void promise21_noneWhereThereAreNoTwo() {
        for (int what = 0; what < 3; what++) {
            int w = what;
            Edges.asks("all are full, what " + what, Edges::filled, x -> x.split(30, 0, w), -1);
            Edges.asks("one has room, what " + what, () -> roomIn(16, false), x -> x.split(30, 0, w), -1);
            Edges.asks("one has room for two, what " + what, () -> roomIn(16, true), x -> x.split(30, 0, w), -1);
        }
        Edges.asks("two have room", () -> roomIn(272, false), x -> x.split(30, 0, 0), 48);
    }

    static void promise21_badGoesAheadOfNone() {
        Edges.bad("n", Edges::filled, x -> x.split(1, 0, 0));
        Edges.bad("kind", Edges::filled, x -> x.split(2, 6, 0));
        Edges.bad("what", Edges::filled, x -> x.split(2, 0, 3));
    }

    static void promise21_40And41() {
        DarnedSock x = new DarnedSock();
        for (int c = 0; c < 9; c++) {
            x.darn(c, 0, 0, c == 3 || c == 5 ? 30 : 1);
            if (c != 3 && c != 5) x.wear(c, 0);
        }
        Edges.due("39", x.split(19, 0, 2), 39);
        Edges.due("40", x.split(20, 0, 2), 40);
        Edges.due("40", x.split(21, 0, 2), 40);
        Edges.due("41: all the time", x.split(22, 0, 2), 41);
        Edges.due("41: i", x.split(22, 0, 1), 11);
        Edges.due("41: i, the least", x.split(24, 0, 1), 11);
        Edges.due("41: all the time", x.split(30, 0, 2), 41);
    }

    static void promise21_putInNow() {
        int[] due = {3, 2, 3};
        for (int year = 0; year < 3; year++) {
            DarnedSock x = holed(5);
            for (int i = 0; i < year; i++) x.years(1);
            Edges.due("mothed of 8 each in year " + year, x.split(16, 4, 2), due[year]);
        }
    }
}
