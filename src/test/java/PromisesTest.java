/** Each promise of the document by hand: ordinary calls, the edges that it names, wrong numbers. */
public final class PromisesTest {
    private static int wrong = 0;
    private static int asked = 0;
    private static final int HUGE = Integer.MAX_VALUE, LOW = Integer.MIN_VALUE;

    private static void due(String what, long got, long want) {
        asked++;
        if (got == want) return;
        wrong++;
        System.out.println(what + " answered " + got + ", due is " + want);
    }

    public static void main(String[] args) {
        promise1new();
        promise2sock();
        promise3wear();
        promise4darn();
        promise5unpick();
        promise6years();
        promise7undo();
        promise8type();
        promise9clear();
        promise10read();
        promise10faults();
        promise10refused();
        promise11of();
        promise12cell();
        promise13claims();
        promise13lines();
        promise14owner();
        promise15laws();
        promise16share();
        promise17twos();
        promise18whole();
        promise19holes();
        promise20best();
        promise21split();
        promise22reading();
        promise23forget();
        promise24may();
        promise25look();
        promise26orders();
        promise27odds();
        promise28drawn();
        promise29part();
        promise30image();
        promise31from();
        promise32status();
        promise33count();
        promise34digest();
        System.out.println(asked + " answers by hand, " + wrong + " wrong");
        if (wrong != 0) System.exit(1);
    }

    /** A sock of which each cell has one darn of wool. */
    private static DarnedSock woollen(int thread) {
        DarnedSock x = new DarnedSock();
        for (int c = 0; c < 9; c++) x.darn(c, 0, c % 3, thread);
        return x;
    }

    private static DarnedSock typed(String text) {
        DarnedSock x = new DarnedSock();
        for (int i = 0; i < text.length(); i++) x.type(text.charAt(i));
        return x;
    }

    private static int readOf(String text) {
        return typed(text).read();
    }

    /** The status that a call has to leave: it refused as one reason, and changed nothing else. */
    private static void refusals(String what, DarnedSock x, int bad, int no, int full) {
        due(what + " BAD", x.status(0), bad);
        due(what + " NO", x.status(1), no);
        due(what + " FULL", x.status(2), full);
    }

    private static void promise1new() {
        DarnedSock x = new DarnedSock();
        int[] counts = {0, 9, 0, 0, 0, 0};
        for (int i = 0; i < 6; i++) due("1 count " + i, x.count(i), counts[i]);
        for (int c = 0; c < 9; c++) {
            due("1 wears", x.cell(c, 0), 1);
            due("1 darns", x.cell(c, 1), 0);
        }
        due("1 part", x.part(0), 0);
        due("1 part", x.part(1), 1);
        due("1 image 0", x.from(0), -3);
        due("1 image 1", x.from(1), -3);
        refusals("1", x, 0, 2, 0);
        due("NONE", DarnedSock.NONE, -1);
        due("BAD", DarnedSock.BAD, -2);
        due("NO", DarnedSock.NO, -3);
        due("FULL", DarnedSock.FULL, -4);
    }

    private static void promise2sock() {
        DarnedSock x = woollen(5);
        x.wear(3, 4);
        x.reading(1, 2, 3);
        x.type(65);
        due("2 sock", x.sock(99), 9);
        due("2 darns", x.count(0), 0);
        due("2 year", x.count(2), 99);
        due("2 readings", x.count(3), 0);
        due("2 undone", x.count(4), 0);
        due("2 text stays", x.count(5), 1);
        due("2 wears", x.cell(3, 0), 1);
        due("2 again", x.sock(0), 0);
        due("2 bad", x.sock(100), -2);
        due("2 bad", x.sock(-1), -2);
        due("2 bad", x.sock(LOW), -2);
        due("2 year", x.count(2), 0);
        refusals("2", x, 3, 0, 0);
    }

    private static void promise3wear() {
        DarnedSock x = new DarnedSock();
        due("3 wear", x.wear(8, 5), 1);
        due("3 wear", x.wear(8, 0), 5);
        due("3 wear", x.wear(8, 2), 0);
        due("3 none undone", x.count(4), 0);
        due("3 bad", x.wear(9, 0), -2);
        due("3 bad", x.wear(-1, 0), -2);
        due("3 bad", x.wear(0, 6), -2);
        due("3 bad", x.wear(0, -1), -2);
        due("3 bad", x.wear(HUGE, LOW), -2);
        due("3 cell 0", x.cell(0, 0), 1);
        due("3 cell 8", x.cell(8, 0), 2);
        refusals("3", x, 5, 0, 0);
    }

    private static void promise4darn() {
        DarnedSock x = new DarnedSock();
        x.sock(12);
        due("4 darn", x.darn(4, 5, 2, 30), 1);
        due("4 darn", x.darn(4, 0, 0, 1), 2);
        due("4 darn", x.darn(4, 1, 1, 7), 3);
        due("4 full", x.darn(4, 1, 1, 7), -4);
        due("4 bad before full", x.darn(4, 6, 1, 7), -2);
        due("4 bad", x.darn(9, 0, 0, 1), -2);
        due("4 bad", x.darn(-1, 0, 0, 1), -2);
        due("4 bad", x.darn(0, -1, 0, 1), -2);
        due("4 bad", x.darn(0, 0, 3, 1), -2);
        due("4 bad", x.darn(0, 0, -1, 1), -2);
        due("4 bad", x.darn(0, 0, 0, 0), -2);
        due("4 bad", x.darn(0, 0, 0, 31), -2);
        int[][] darns = {{5, 2, 30, 12}, {0, 0, 1, 12}, {1, 1, 7, 12}};
        for (int p = 0; p < 3; p++) {
            for (int f = 0; f < 4; f++) due("4 of", x.of(4, p, f), darns[p][f]);
        }
        due("4 undone", x.count(4), 3);
        refusals("4", x, 8, 0, 1);
    }

    private static void promise5unpick() {
        DarnedSock x = new DarnedSock();
        x.darn(2, 0, 0, 9);
        x.darn(2, 3, 1, 4);
        x.years(1);
        due("5 unpick", x.unpick(2), 3);
        due("5 unpick", x.unpick(2), 9);
        due("5 hole", x.unpick(2), -3);
        due("5 bad", x.unpick(9), -2);
        due("5 bad", x.unpick(-1), -2);
        due("5 undone", x.count(4), 5);
        refusals("5", x, 2, 1, 0);
    }

    private static void promise6years() {
        DarnedSock x = new DarnedSock();
        for (int kind = 0; kind < 6; kind++) {
            x.darn(kind, kind, 0, 30);
            x.wear(kind, 3);
        }
        x.darn(6, 0, 0, 3);
        x.darn(6, 0, 1, 1);
        due("6 year", x.years(1), 2);
        int[] left = {27, 28, 26, 28, 26, 27};
        for (int kind = 0; kind < 6; kind++) due("6 left of kind " + kind, x.of(kind, 0, 2), left[kind]);
        due("6 the one under it has lost nothing", x.of(6, 0, 2), 3);
        due("6 years", x.years(2), 2);
        int[] then = {21, 24, 18, 24, 10, 21};
        for (int kind = 0; kind < 6; kind++) due("6 left of kind " + kind, x.of(kind, 0, 2), then[kind]);
        due("6 under", x.of(6, 0, 2), 1);
        due("6 year", x.count(2), 3);
        due("6 undone", x.count(4), 8);
        due("6 years", x.years(20), 9);
        due("6 bad", x.years(0), -2);
        due("6 bad", x.years(21), -2);
        due("6 bad", x.years(LOW), -2);
        due("6 year", x.count(2), 23);
        refusals("6", x, 3, 0, 0);
        DarnedSock still = woollen(1);
        for (int c = 0; c < 9; c++) still.wear(c, 0);
        due("6 nothing is worn", still.years(20), 0);
        due("6 still", still.of(8, 0, 2), 1);
        DarnedSock scrap = new DarnedSock();
        scrap.darn(0, 2, 0, 1);
        scrap.wear(0, 0);
        due("6 a scrap wears", scrap.years(1), 9);
    }

    private static void promise7undo() {
        DarnedSock x = new DarnedSock();
        due("7 none", x.undo(), -3);
        x.darn(0, 0, 0, 5);
        x.darn(1, 0, 0, 5);
        x.years(2);
        x.wear(0, 4);
        x.reading(0, 1, 2);
        due("7 a year", x.undo(), 2);
        due("7 year", x.count(2), 1);
        due("7 thread", x.of(0, 0, 2), 4);
        due("7 wears stays", x.cell(0, 0), 4);
        due("7 readings stay", x.count(3), 1);
        x.unpick(1);
        due("7 unpicked", x.undo(), 2);
        due("7 thread", x.of(1, 0, 2), 4);
        due("7 a year", x.undo(), 2);
        due("7 a darn", x.undo(), 1);
        due("7 a darn", x.undo(), 0);
        due("7 none", x.undo(), -3);
        refusals("7", x, 0, 2, 0);
        DarnedSock y = new DarnedSock();
        y.years(20);
        for (int i = 1; i <= 8; i++) {
            due("7 back", y.undo(), 0);
            due("7 year", y.count(2), 20 - i);
        }
        due("7 eight at most", y.undo(), -3);
    }

    private static void promise8type() {
        DarnedSock x = new DarnedSock();
        for (int i = 1; i <= 150; i++) due("8 type", x.type(i % 128), i);
        due("8 full", x.type(0), -4);
        due("8 bad before full", x.type(128), -2);
        due("8 bad", x.type(-1), -2);
        due("8 bytes", x.count(5), 150);
        refusals("8", x, 2, 0, 1);
    }

    private static void promise9clear() {
        DarnedSock x = typed("sock 5;");
        due("9 clear", x.clear(), 7);
        due("9 clear", x.clear(), 0);
        due("9 empty", x.read(), -10);
        due("9 type", x.type(5), 1);
    }

    private static void promise10read() {
        DarnedSock x = typed("sock 9; wear 2 5;darn2 3 1 30 ;darn 2 00 01 02;  ");
        x.darn(5, 0, 0, 5);
        x.years(3);
        x.wear(7, 3);
        x.reading(1, 1, 1);
        due("10 read", x.read(), 4);
        due("10 darns", x.count(0), 2);
        due("10 year", x.count(2), 9);
        due("10 readings", x.count(3), 0);
        due("10 undone", x.count(4), 0);
        due("10 text", x.count(5), 49);
        due("10 wears", x.cell(2, 0), 5);
        due("10 wears", x.cell(7, 0), 1);
        int[][] darns = {{3, 1, 30, 9}, {0, 1, 2, 9}};
        for (int p = 0; p < 2; p++) {
            for (int f = 0; f < 4; f++) due("10 of", x.of(2, p, f), darns[p][f]);
        }
        due("10 again", x.read(), 4);
        due("10 sock alone", readOf("sock 99;"), 1);
        due("10 no blank is needed", readOf("sock0;wear8 5;"), 2);
    }

    private static void promise10faults() {
        String[] texts = {
            "", "   ", "sock", "sock 1", "sock 1  ", "soc", "socks 1;", " wear 1 1;", ";", "5", "A", "sock;",
            "sock 100;", "sock 001;", "sock 1;;", "sock 1;sock 2;", "sock 1; darm 1 1 1 1;", "sock 1 2;", "sock 1;wear 1;",
            "sock 1;wear 1 1", "sock 1;wear 1 1 1;", "sock 1;darn 1 1 1;", "sock 1;darn 1 1 1 1 1;", "sock\t1;", "sockA1;",
            "sock 1,", "sock 1;wear 1 1;x", "sock wear", "sock 1; 7", "sock 1;`", "sock 1;{", "sock /", "sock :", "sock -1;",
            "sock 1;wear 9 9", "sock 1;wear 9 9;wear 1 123;", "sock 1;\0", "tock 1;", "sock 1;bear 1 1;", "sock 1; barn 1 1 1 1;",
            "sod", "sock 1;wea", "SOCK 1;"
        };
        int[] faults = {
            0, 3, 4, 6, 8, 0, 0, 1, 0, 0, 0, 4,
            5, 5, 7, 7, 8, 7, 13,
            15, 16, 17, 20, 4, 4,
            6, 16, 5, 8, 7, 7, 5, 5, 5,
            15, 23, 7, 0, 7, 8,
            0, 7, 0
        };
        for (int i = 0; i < texts.length; i++) due("10 fault of \"" + texts[i] + "\"", readOf(texts[i]), -10 - faults[i]);
        DarnedSock x = typed("sock 7; darn 1 1 1 1; darn");
        x.darn(3, 1, 2, 20);
        x.years(1);
        x.share(2);
        long before = x.digest();
        due("10 fault", x.read(), -10 - 26);
        due("10 nothing changes", x.digest(), before);
        refusals("10 faults", x, 0, 0, 0);
    }

    private static void promise10refused() {
        due("10 cell", readOf("sock 1;wear 9 1;"), -1001);
        due("10 wears", readOf("sock 1;wear 8 6;"), -1001);
        due("10 kind", readOf("sock 1;wear 8 5;darn 0 6 0 1;"), -1002);
        due("10 family", readOf("sock 1;darn 0 5 3 1;"), -1001);
        due("10 thread", readOf("sock 1;darn 0 5 2 0;"), -1001);
        due("10 thread", readOf("sock 1;darn 0 5 2 30;darn 0 5 2 31;"), -1002);
        due("10 full", readOf("sock 1;darn 8 0 0 1;darn 8 0 0 1;darn 8 0 0 1;darn 8 0 0 1;"), -1004);
        DarnedSock x = typed("sock 7;darn 1 1 1 1;darn 1 1 9 1;");
        x.darn(3, 1, 2, 20);
        x.wear(3, 3);
        x.years(1);
        x.reading(3, 1, 1);
        long before = x.digest();
        due("10 refused", x.read(), -1002);
        due("10 nothing changes", x.digest(), before);
        due("10 what may be undone stays", x.undo(), 1);
        due("10 year", x.count(2), 0);
        refusals("10 refused", x, 0, 0, 0);
    }

    private static void promise11of() {
        DarnedSock x = new DarnedSock();
        x.sock(1);
        x.wear(0, 3);
        x.darn(0, 5, 0, 7);
        x.darn(0, 3, 1, 9);
        x.darn(0, 5, 2, 4);
        x.darn(1, 4, 2, 9);
        x.darn(1, 2, 2, 9);
        x.darn(1, 1, 2, 9);
        x.darn(2, 5, 1, 6);
        x.darn(2, 5, 1, 6);
        x.darn(2, 5, 1, 6);
        int[] counts = {7, 18, 13, 4, 4, 18, 6, 9, 10};
        int[] losses = {3, 2, 3, 4, 2, 1, 1, 1, 1};
        for (int i = 0; i < 9; i++) {
            due("11 counts", x.of(i / 3, i % 3, 4), counts[i]);
            due("11 loses", x.of(i / 3, i % 3, 5), losses[i]);
        }
        DarnedSock y = new DarnedSock();
        y.darn(0, 3, 0, 10);
        y.darn(0, 5, 0, 30);
        y.wear(0, 0);
        y.years(9);
        due("11 blue of 9 years", y.of(0, 0, 4), 20);
        due("11 lien over it", y.of(0, 1, 4), 40);
        y.years(1);
        due("11 blue of 10 years", y.of(0, 0, 4), 23);
        due("11 lien over it", y.of(0, 1, 4), 41);
        due("11 the year in which it was put in", y.of(0, 0, 3), 0);
        DarnedSock m = new DarnedSock();
        m.darn(0, 4, 0, 2);
        m.wear(0, 5);
        due("11 mothed, year 0", m.of(0, 0, 5), 6);
        m.sock(1);
        m.darn(0, 4, 0, 2);
        m.wear(0, 5);
        due("11 mothed, year 1", m.of(0, 0, 5), 12);
        due("11 no darn", m.of(0, 1, 0), -1);
        due("11 no darn", m.of(8, 0, 5), -1);
        due("11 bad", m.of(9, 0, 0), -2);
        due("11 bad", m.of(-1, 0, 0), -2);
        due("11 bad", m.of(0, 3, 0), -2);
        due("11 bad", m.of(0, -1, 0), -2);
        due("11 bad", m.of(0, 0, 6), -2);
        due("11 bad", m.of(0, 0, -1), -2);
        refusals("11", m, 6, 0, 0);
    }

    private static void promise12cell() {
        DarnedSock x = new DarnedSock();
        x.wear(6, 5);
        x.darn(6, 0, 0, 1);
        x.darn(6, 0, 0, 1);
        due("12 wears", x.cell(6, 0), 5);
        due("12 darns", x.cell(6, 1), 2);
        due("12 bad", x.cell(9, 0), -2);
        due("12 bad", x.cell(-1, 0), -2);
        due("12 bad", x.cell(0, 2), -2);
        due("12 bad", x.cell(0, -1), -2);
        refusals("12", x, 4, 0, 0);
    }

    private static void promise13claims() {
        DarnedSock x = new DarnedSock();
        x.darn(0, 0, 0, 11);
        x.darn(0, 5, 1, 6);
        x.years(4);
        x.darn(5, 1, 0, 3);
        x.darn(7, 2, 2, 1);
        int[][] claims = {{17, 1, 0, 5}, {7, 1, 0, 5}, {0, 1, 0, 1}};
        for (int f = 0; f < 3; f++) {
            for (int law = 0; law < 4; law++) due("13 claims " + f + " " + law, x.claims(f, law), claims[f][law]);
        }
        DarnedSock none = new DarnedSock();
        for (int law = 0; law < 4; law++) due("13 nothing", none.claims(1, law), 0);
        due("13 bad", none.claims(3, 0), -2);
        due("13 bad", none.claims(-1, 0), -2);
        due("13 bad", none.claims(0, 4), -2);
        due("13 bad", none.claims(0, -1), -2);
        refusals("13", none, 4, 0, 0);
    }

    private static void promise13lines() {
        int[][] lines = {{0, 1, 2}, {3, 4, 5}, {6, 7, 8}, {0, 3, 6}, {1, 4, 7}, {2, 5, 8}, {0, 4, 8}, {2, 4, 6}, {0, 1, 3}, {1, 5, 6}};
        for (int i = 0; i < lines.length; i++) {
            DarnedSock x = new DarnedSock();
            for (int c : lines[i]) {
                x.darn(c, 0, 0, 3);
                x.darn(c, 0, 1, 3);
            }
            due("13 line " + i, x.claims(1, 2), i < 8 ? 1 : 0);
            due("13 not the lower ones", x.claims(0, 2), 0);
            for (int c : lines[i]) {
                x.darn(c, 0, 2, 3);
                due("13 two of three are no line", x.claims(1, 2), 0);
                x.unpick(c);
            }
        }
        DarnedSock all = new DarnedSock();
        for (int c = 0; c < 9; c++) all.darn(c, 0, 2, 1);
        due("13 all lines", all.claims(2, 2), 8);
        due("13 no lines of holes", all.claims(0, 2), 0);
    }

    private static void promise14owner() {
        DarnedSock x = new DarnedSock();
        for (int law = 0; law < 4; law++) due("14 none", x.owner(law, 0), -1);
        x.darn(0, 0, 0, 10);
        x.darn(1, 1, 1, 8);
        x.wear(1, 3);
        due("14 now", x.owner(0, 0), 1);
        due("14 behind 1", x.owner(0, 1), 1);
        due("14 behind 2", x.owner(0, 2), -1);
        due("14 behind 3", x.owner(0, 3), 0);
        due("14 behind 9", x.owner(1, 9), 0);
        due("14 behind 10", x.owner(1, 10), -1);
        due("14 behind 40", x.owner(0, 40), -1);
        due("14 first", x.owner(3, 0), -1);
        due("14 first behind 3", x.owner(3, 3), -1);
        due("14 first behind 4", x.owner(3, 4), 0);
        due("14 changes nothing", x.count(2), 0);
        due("14 bad", x.owner(4, 0), -2);
        due("14 bad", x.owner(-1, 0), -2);
        due("14 bad", x.owner(0, 41), -2);
        due("14 bad", x.owner(0, -1), -2);
        refusals("14", x, 4, 0, 0);
        DarnedSock three = new DarnedSock();
        for (int f = 0; f < 3; f++) three.darn(f, 0, f, 5);
        due("14 three alike", three.owner(0, 0), -1);
        three.darn(3, 0, 2, 1);
        due("14 the third", three.owner(0, 0), 2);
    }

    private static void promise15laws() {
        DarnedSock x = new DarnedSock();
        due("15 none", x.laws(0), 0);
        x.darn(0, 0, 2, 1);
        x.years(1);
        due("15 gone", x.laws(2), 0);
        x.darn(8, 0, 2, 2);
        x.years(1);
        x.darn(3, 0, 0, 9);
        x.darn(4, 0, 0, 9);
        due("15 oldest", x.laws(2), 8);
        due("15 thread, cells", x.laws(0), 3);
        x.darn(5, 0, 0, 9);
        due("15 thread, cells, lines", x.laws(0), 7);
        due("15 none", x.laws(1), 0);
        due("15 bad", x.laws(3), -2);
        due("15 bad", x.laws(-1), -2);
        refusals("15", x, 2, 0, 0);
    }

    private static void promise16share() {
        DarnedSock x = new DarnedSock();
        x.darn(0, 0, 0, 4);
        x.darn(1, 1, 1, 4);
        due("16 share", x.share(0), 1);
        due("16 above", x.part(0), 1);
        due("16 below", x.part(1), 3);
        due("16 share", x.share(1), 1);
        due("16 above", x.part(0), 2);
        due("16 bad", x.share(3), -2);
        due("16 bad", x.share(-1), -2);
        due("16 nothing changes", x.part(0), 2);
        due("16 share", x.share(2), 1);
        due("16 above", x.part(0), 0);
        due("16 below", x.part(1), 1);
        refusals("16", x, 2, 0, 0);
        DarnedSock one = new DarnedSock();
        one.darn(0, 0, 2, 17);
        one.share(2);
        due("16 all", one.part(0) * 10 + one.part(1), 11);
        one.sock(3);
        due("16 the fraction stays", one.part(0), 1);
        due("16 nothing is claimed", one.share(2), 1);
        due("16 above", one.part(0), 0);
        due("16 below", one.part(1), 1);
        one.darn(0, 2, 1, 1);
        due("16 a scrap of 1 counts nothing", one.share(1), 1);
        due("16 below", one.part(1), 1);
    }

    private static void promise17twos() {
        DarnedSock x = new DarnedSock();
        for (int law = 0; law < 4; law++) due("17 nothing is claimed", x.twos(law), -1);
        x.darn(0, 0, 0, 10);
        x.darn(1, 1, 1, 8);
        x.wear(1, 3);
        due("17 thread", x.twos(0), 2);
        due("17 cells", x.twos(1), 0);
        due("17 lines", x.twos(2), -1);
        due("17 first", x.twos(3), 0);
        DarnedSock late = new DarnedSock();
        late.darn(0, 0, 0, 30);
        late.darn(1, 0, 1, 30);
        late.darn(1, 0, 1, 30);
        late.wear(0, 0);
        late.wear(1, 1);
        due("17 behind 30", late.twos(0), 30);
        late.undo();
        late.darn(1, 1, 1, 5);
        due("17 silk over wool", late.twos(0), 5);
        DarnedSock last = new DarnedSock();
        last.darn(0, 0, 0, 20);
        last.darn(1, 0, 1, 30);
        last.darn(1, 0, 1, 30);
        last.wear(0, 0);
        due("17 behind 40", last.twos(0), 40);
        last.wear(0, 0);
        last.darn(2, 0, 1, 1);
        last.wear(2, 0);
        due("17 not of 41", last.twos(0), -1);
        due("17 bad", last.twos(4), -2);
        due("17 bad", last.twos(-1), -2);
        refusals("17", last, 2, 0, 0);
    }

    private static void promise18whole() {
        DarnedSock x = woollen(30);
        due("18 whole", x.whole(), 30);
        x.darn(0, 0, 0, 10);
        due("18 whole", x.whole(), 30);
        for (int c = 1; c < 9; c++) x.darn(c, 0, 0, 10);
        due("18 behind 40", x.whole(), 40);
        for (int c = 0; c < 9; c++) x.darn(c, 0, 0, 1);
        due("18 all the time", x.whole(), 41);
        x.wear(4, 5);
        due("18 the worst cell", x.whole(), 9);
        x.sock(0);
        due("18 holes now", x.whole(), 0);
        for (int c = 0; c < 9; c++) x.darn(c, 4, 0, 21);
        due("18 mothed: 2 4 4 2 4 4 2", x.whole(), 7);
        x.years(1);
        due("18 a year later", x.whole(), 6);
    }

    private static void promise19holes() {
        DarnedSock x = new DarnedSock();
        for (int c = 0; c < 9; c++) x.darn(c, 0, 0, c + 1);
        due("19 now", x.holes(0), 0);
        due("19 behind 1", x.holes(1), 1);
        due("19 behind 8", x.holes(8), 255);
        due("19 behind 40", x.holes(40), 511);
        due("19 changes nothing", x.count(2), 0);
        due("19 bad", x.holes(41), -2);
        due("19 bad", x.holes(-1), -2);
        refusals("19", x, 2, 0, 0);
    }

    private static void promise20best() {
        DarnedSock x = woollen(10);
        due("20 least of like ones", x.best(5, 0, 0), 0);
        due("20 how long", x.best(5, 0, 1), 10);
        x.wear(6, 5);
        due("20 where", x.best(30, 0, 0), 6);
        due("20 how long", x.best(30, 0, 1), 8);
        due("20 silk", x.best(30, 1, 1), 10);
        due("20 mothed", x.best(30, 4, 1), 5);
        for (int c = 0; c < 9; c++) {
            x.darn(c, 0, 0, 30);
            x.darn(c, 0, 0, 30);
        }
        due("20 none", x.best(1, 0, 0), -1);
        due("20 none", x.best(1, 0, 1), -1);
        x.unpick(8);
        due("20 the only one", x.best(1, 0, 0), 8);
        DarnedSock still = woollen(1);
        for (int c = 0; c < 9; c++) still.wear(c, 0);
        due("20 all the time", still.best(1, 0, 1), 41);
        due("20 bad", still.best(0, 0, 0), -2);
        due("20 bad", still.best(31, 0, 0), -2);
        due("20 bad", still.best(1, 6, 0), -2);
        due("20 bad", still.best(1, -1, 0), -2);
        due("20 bad", still.best(1, 0, 2), -2);
        due("20 bad", still.best(1, 0, -1), -2);
        refusals("20", still, 6, 0, 0);
        due("20 changes nothing", still.count(0), 9);
    }

    private static void promise21split() {
        DarnedSock x = woollen(20);
        x.wear(2, 4);
        x.wear(7, 4);
        due("21 which", x.split(30, 0, 0), 27);
        due("21 i, the least", x.split(30, 0, 1), 13);
        due("21 how long", x.split(30, 0, 2), 9);
        DarnedSock y = woollen(5);
        due("21 like ones", y.split(2, 0, 0), 1);
        due("21 i", y.split(2, 0, 1), 1);
        due("21 how long", y.split(2, 0, 2), 5);
        for (int c = 0; c < 9; c++) {
            y.darn(c, 0, 0, 30);
            if (c != 4) y.darn(c, 0, 0, 30);
        }
        for (int what = 0; what < 3; what++) due("21 no two", y.split(30, 0, what), -1);
        y.unpick(8);
        due("21 the only two", y.split(30, 0, 0), 48);
        due("21 bad", y.split(1, 0, 0), -2);
        due("21 bad", y.split(31, 0, 0), -2);
        due("21 bad", y.split(2, 6, 0), -2);
        due("21 bad", y.split(2, -1, 0), -2);
        due("21 bad", y.split(2, 0, 3), -2);
        due("21 bad", y.split(2, 0, -1), -2);
        refusals("21", y, 6, 0, 0);
    }

    private static void promise22reading() {
        DarnedSock x = new DarnedSock();
        due("22 bad", x.reading(9, 0, 0), -2);
        due("22 bad", x.reading(-1, 0, 0), -2);
        due("22 bad", x.reading(0, 21, 0), -2);
        due("22 bad", x.reading(0, -1, 0), -2);
        due("22 bad", x.reading(0, 0, 31), -2);
        due("22 bad", x.reading(0, 0, -1), -2);
        for (int i = 1; i <= 6; i++) due("22 reading", x.reading(8, 20, 30), i);
        due("22 full", x.reading(0, 0, 0), -4);
        due("22 bad before full", x.reading(9, 0, 0), -2);
        refusals("22", x, 7, 0, 1);
    }

    private static void promise23forget() {
        DarnedSock x = new DarnedSock();
        x.darn(0, 0, 0, 5);
        x.reading(0, 0, 4);
        x.reading(0, 0, 5);
        due("23 may", x.may(0), 0);
        due("23 forget", x.forget(), 2);
        due("23 forget", x.forget(), 0);
        due("23 may", x.may(0), 63);
    }

    private static void promise24may() {
        DarnedSock x = new DarnedSock();
        due("24 a hole", x.may(0), 0);
        x.wear(0, 3);
        x.darn(0, 0, 0, 4);
        x.darn(0, 5, 1, 20);
        due("24 all", x.may(0), 63);
        x.reading(1, 0, 7);
        due("24 another cell", x.may(0), 63);
        x.reading(0, 1, 17);
        due("24 wool, lien", x.may(0), 33);
        x.forget();
        x.reading(0, 1, 16);
        due("24 scrap, mothed in year 0", x.may(0), 20);
        x.reading(0, 2, 8);
        due("24 mothed", x.may(0), 16);
        x.reading(0, 5, 0);
        due("24 gone", x.may(0), 16);
        x.forget();
        x.reading(0, 7, 0);
        due("24 gone, whatever is under it", x.may(0), 53);
        x.years(1);
        due("24 from now on", x.may(0), 53);
        due("24 bad", x.may(9), -2);
        due("24 bad", x.may(-1), -2);
        refusals("24", x, 2, 0, 0);
    }

    private static void promise25look() {
        DarnedSock x = new DarnedSock();
        due("25 a hole", x.look(0), -1);
        x.darn(0, 0, 0, 30);
        x.wear(0, 3);
        due("25 three pairs, then a mothed one apart", x.look(0), 1);
        x.reading(0, 1, 26);
        due("25 scrap or mothed", x.look(0), 2);
        x.reading(0, 2, 22);
        due("25 scrap", x.look(0), 0);
        x.reading(0, 3, 22);
        due("25 no kind", x.look(0), -1);
        x.forget();
        x.reading(0, 1, 28);
        due("25 silk, blue: always alike", x.look(0), 0);
        DarnedSock y = new DarnedSock();
        y.darn(0, 0, 0, 1);
        y.wear(0, 0);
        due("25 scrap, mothed are gone", y.look(0), 1);
        due("25 bad", y.look(9), -2);
        due("25 bad", y.look(-1), -2);
        refusals("25", y, 2, 0, 0);
    }

    private static void promise26orders() {
        DarnedSock x = new DarnedSock();
        due("26 no darns", x.orders(511, -1), 1);
        due("26 no cells", x.orders(0, -1), 1);
        due("26 not so many", x.orders(511, 0), -5);
        x.darn(5, 0, 0, 20);
        x.darn(2, 0, 0, 20);
        x.years(1);
        x.darn(2, 0, 0, 20);
        x.darn(0, 0, 0, 20);
        x.darn(2, 0, 0, 20);
        x.darn(8, 0, 0, 20);
        due("26 orders", x.orders(511, -1), 2 * 12);
        int[] first = {20, 50, 0, 21, 22, 80};
        for (int i = 0; i < 6; i++) due("26 the first, " + i, x.orders(511, i), first[i]);
        due("26 not so many", x.orders(511, 6), -5);
        due("26 not so many", x.orders(511, HUGE), -5);
        due("26 one cell", x.orders(4, -1), 1);
        due("26 two cells", x.orders(5, -1), 3);
        due("26 two cells", x.orders(5, 1), 0);
        due("26 two cells", x.orders(5, 4), -5);
        x.darn(8, 0, 0, 20);
        due("26 too many", x.orders(511, -1), -20);
        due("26 too many", x.orders(511, 9), -20);
        due("26 bad", x.orders(512, -1), -10);
        due("26 bad", x.orders(-1, -1), -10);
        due("26 bad before too many", x.orders(511, -2), -10);
        refusals("26", x, 3, 2, 0);
        DarnedSock six = new DarnedSock();
        for (int c = 0; c < 6; c++) six.darn(c, 0, 0, 1);
        due("26 all orders", six.orders(63, -1), 720);
    }

    private static void promise27odds() {
        DarnedSock x = new DarnedSock();
        due("27 a hole", x.odds(4, 0, 0), 1);
        due("27 above", x.part(0), 1);
        due("27 below", x.part(1), 1);
        x.darn(0, 0, 0, 2);
        x.odds(0, 2, 5);
        due("27 above", x.part(0), 1);
        due("27 below", x.part(1), 4);
        x.odds(0, 3, 5);
        due("27 above", x.part(0), 1);
        due("27 below", x.part(1), 2);
        x.odds(0, 1, 10);
        due("27 above", x.part(0), 0);
        due("27 below", x.part(1), 1);
        x.odds(0, 8, 10);
        due("27 surely", x.part(0), 1);
        x.odds(0, 8, 0);
        due("27 never", x.part(0), 0);
        x.darn(1, 4, 0, 4);
        x.odds(1, 2, 1);
        due("27 mothed in the second year", x.part(0), 1);
        due("27 mothed in the second year", x.part(1), 10);
        x.darn(2, 4, 0, 8);
        x.odds(2, 3, 5);
        due("27 mothed loses 2, 4, 4: the last two, in which it is gone", x.part(0), 1);
        due("27 mothed loses 2, 4, 4: the last two, in which it is gone", x.part(1), 4);
        x.darn(0, 0, 0, 1);
        x.odds(0, 3, 9);
        due("27 the one under it, too", x.part(0), 729);
        due("27 below", x.part(1), 1000);
        due("27 bad", x.odds(9, 0, 0), -2);
        due("27 bad", x.odds(-1, 0, 0), -2);
        due("27 bad", x.odds(0, 9, 0), -2);
        due("27 bad", x.odds(0, -1, 0), -2);
        due("27 bad", x.odds(0, 0, 11), -2);
        due("27 bad", x.odds(0, 0, -1), -2);
        due("27 nothing changes", x.part(0), 729);
        refusals("27", x, 6, 0, 0);
    }

    private static void promise28drawn() {
        DarnedSock x = new DarnedSock();
        due("28 holes", x.drawn(0, 0), 9);
        DarnedSock y = woollen(1);
        due("28 no years", y.drawn(999999, 0), 0);
        // by hand from seed 0: 12345 gives 0, then 1406932606 gives 5, ...
        long r = 0;
        int holes = 0;
        for (int c = 0; c < 9; c++) {
            r = (r * 1103515245L + 12345L) % 2147483648L;
            if (r / 65536 % 6 >= 1) holes++;
        }
        due("28 a year", y.drawn(0, 1), holes);
        due("28 wears stay", y.cell(1, 0), 1);
        due("28 darns stay", y.count(0), 9);
        due("28 bad", y.drawn(-1, 0), -2);
        due("28 bad", y.drawn(1000000, 0), -2);
        due("28 bad", y.drawn(0, 21), -2);
        due("28 bad", y.drawn(0, -1), -2);
        refusals("28", y, 4, 0, 0);
    }

    private static void promise29part() {
        DarnedSock x = new DarnedSock();
        due("29 bad", x.part(2), -2);
        due("29 bad", x.part(-1), -2);
        due("29 above", x.part(0), 0);
        due("29 below", x.part(1), 1);
        refusals("29", x, 2, 0, 0);
    }

    private static void promise30image() {
        DarnedSock x = new DarnedSock();
        due("30 image", x.image(0), 1);
        due("30 image", x.image(1), 1);
        due("30 bad", x.image(2), -2);
        due("30 bad", x.image(-1), -2);
        x.darn(0, 0, 0, 5);
        due("30 image over it", x.image(0), 1);
        x.from(1);
        due("30 the other one", x.count(0), 0);
        x.from(0);
        due("30 the newer one", x.count(0), 1);
        refusals("30", x, 2, 0, 0);
    }

    private static void promise31from() {
        DarnedSock x = new DarnedSock();
        due("31 none was kept", x.from(1), -3);
        due("31 bad", x.from(2), -2);
        due("31 bad", x.from(-1), -2);
        x.darn(3, 1, 1, 8);
        x.wear(3, 2);
        x.years(2);
        x.reading(3, 1, 2);
        x.image(1);
        x.type(7);
        x.share(1);
        x.sock(50);
        due("31 from", x.from(1), 1);
        due("31 darns", x.count(0), 1);
        due("31 year", x.count(2), 2);
        due("31 readings", x.count(3), 1);
        due("31 undone", x.count(4), 3);
        due("31 the text stays", x.count(5), 1);
        due("31 the fraction stays", x.part(0), 1);
        due("31 wears", x.cell(3, 0), 2);
        due("31 thread", x.of(3, 0, 2), 6);
        due("31 undo", x.undo(), 1);
        due("31 thread", x.of(3, 0, 2), 7);
        due("31 undo", x.undo(), 1);
        due("31 undo", x.undo(), 0);
        due("31 the image is as it was", x.from(1), 1);
        due("31 undone", x.count(4), 3);
        refusals("31", x, 2, 1, 0);
    }

    private static void promise32status() {
        DarnedSock x = new DarnedSock();
        due("32 another", x.status(3), -1);
        due("32 another", x.status(-1), -1);
        due("32 BAD", x.status(0), 2);
        x.unpick(0);
        x.undo();
        x.orders(-1, 0);
        x.count(6);
        for (int i = 0; i < 4; i++) x.darn(0, 0, 0, 1);
        refusals("32", x, 4, 2, 1);
        x.best(1, 0, 0);
        x.read();
        x.orders(1, 5);
        x.of(1, 0, 0);
        refusals("32 others are none", x, 4, 2, 1);
    }

    private static void promise33count() {
        DarnedSock x = typed("abc");
        x.sock(40);
        x.darn(0, 0, 0, 5);
        x.darn(0, 0, 0, 5);
        x.years(1);
        x.reading(0, 1, 1);
        int[] counts = {2, 8, 41, 1, 3, 3};
        for (int i = 0; i < 6; i++) due("33 count " + i, x.count(i), counts[i]);
        due("33 bad", x.count(6), -2);
        due("33 bad", x.count(-1), -2);
        refusals("33", x, 2, 0, 0);
    }

    private static long hashed(long... values) {
        long h = 1061;
        for (long v : values) h = 31 * h + v;
        return h;
    }

    private static void promise34digest() {
        DarnedSock x = new DarnedSock();
        due("34 new", x.digest(), hashed(0, 9, 0, 0, 0, 0, 1, 0, 1, 0, 1, 0, 1, 0, 1, 0, 1, 0, 1, 0, 1, 0, 1, 0, 0, 1));
        x.sock(4);
        x.type(9);
        x.wear(8, 3);
        x.darn(1, 2, 1, 9);
        x.darn(1, 3, 0, 12);
        x.years(1);
        x.reading(8, 20, 0);
        x.reading(1, 2, 3);
        x.share(0);
        due("34 digest", x.digest(), hashed(2, 8, 5, 2, 3, 1, 1, 0, 1, 2, 2, 1, 9, 4, 3, 0, 11, 4,
            1, 0, 1, 0, 1, 0, 1, 0, 1, 0, 1, 0, 3, 0, 8, 20, 0, 1, 2, 3, 11, 13));
        x.count(9);
        due("34 not by status", x.digest(), hashed(2, 8, 5, 2, 3, 1, 1, 0, 1, 2, 2, 1, 9, 4, 3, 0, 11, 4,
            1, 0, 1, 0, 1, 0, 1, 0, 1, 0, 1, 0, 3, 0, 8, 20, 0, 1, 2, 3, 11, 13));
    }
}
