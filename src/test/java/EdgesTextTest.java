/** Edges of promises 8 to 10: bytes typed, the text emptied, a sock read from it. */
public final class EdgesTextTest {
    private static final String NINETEEN_ITEMS = "sock1;" + "wear1 1;".repeat(18);

    public static void main(String[] args) {
        Edges.runAll(EdgesTextTest.class);
    }

    private static int readOf(String text) {
        return Edges.type(new DarnedSock(), text).read();
    }

    private static void reads(String text, int items) {
        Edges.due("read of \"" + text + "\"", readOf(text), items);
    }

    private static void fault(String text, int place) {
        Edges.due("fault of \"" + text + "\"", readOf(text), -10 - place);
    }

    private static void refusedItem(String text, int item) {
        Edges.due("refused item of \"" + text + "\"", readOf(text), -1000 - item);
    }

    private static boolean isFigure(int b) {
        return b >= '0' && b <= '9';
    }

    /** A sock that has lived, with another text. */
    private static DarnedSock livedWith(String text) {
        DarnedSock x = Edges.lived();
        x.clear();
        return Edges.type(x, text);
    }

    // ---- promise 8

    static void promise08_aByteIs0To127() {
        Edges.range("c", Edges::lived, DarnedSock::type, 0, 21, 127, 21);
    }

    static void promise08_150AreTakenThe151stIsFull() {
        DarnedSock x = new DarnedSock();
        for (int i = 1; i <= 150; i++) Edges.due("byte " + i, x.type(i % 128), i);
        Edges.due("bytes", x.count(5), 150);
        Edges.due("one more", x.type(65), -4);
        Edges.due("bytes", x.count(5), 150);
        Edges.status("one more", x, 0, 0, 1);
        Edges.full("one more", () -> livedWith(NINETEEN_ITEMS), y -> y.type(32));
    }

    static void promise08_badGoesAheadOfFull() {
        Edges.bad("128", () -> livedWith(NINETEEN_ITEMS), x -> x.type(128));
        Edges.bad("-1", () -> livedWith(NINETEEN_ITEMS), x -> x.type(-1));
    }

    static void promise08_roomAgainBehindClear() {
        DarnedSock x = Edges.type(new DarnedSock(), NINETEEN_ITEMS);
        x.clear();
        Edges.due("the first", x.type(65), 1);
    }

    static void promise08_theByteComesBehindTheText() {
        DarnedSock x = Edges.type(new DarnedSock(), "sock 9");
        Edges.due("read", x.read(), -16);
        x.type(59);
        Edges.due("read", x.read(), 1);
        Edges.due("year", x.count(2), 9);
    }

    static void promise08_mayNotBeUndone() {
        DarnedSock x = Edges.type(new DarnedSock(), "a");
        Edges.due("count", x.count(4), 0);
    }

    // ---- promise 9

    static void promise09_howManyItHad() {
        Edges.due("an empty one", new DarnedSock().clear(), 0);
        Edges.due("one", Edges.type(new DarnedSock(), "a").clear(), 1);
        DarnedSock x = Edges.type(new DarnedSock(), NINETEEN_ITEMS);
        x.type(65);
        Edges.due("a full one", x.clear(), 150);
        Edges.due("again", x.clear(), 0);
    }

    static void promise09_theTextIsEmpty() {
        DarnedSock x = Edges.type(new DarnedSock(), "sock 5;");
        x.clear();
        Edges.due("bytes", x.count(5), 0);
        Edges.due("read", x.read(), -10);
        Edges.type(x, "sock ");
        Edges.due("nothing of the old one is left", x.read(), -15);
    }

    static void promise09_allElseStays() {
        DarnedSock x = Edges.lived();
        long counts = x.count(0) + 100L * x.count(2) + 10000L * x.count(3) + 100000L * x.count(4);
        x.clear();
        Edges.due("counts", x.count(0) + 100L * x.count(2) + 10000L * x.count(3) + 100000L * x.count(4), counts);
        Edges.fraction("fraction", x, 11, 41);
        Edges.due("image", x.from(1), 1);
    }

    // ---- promise 10: what may stand

    static void promise10_howManyItems() {
        reads("sock 0;", 1);
        reads("sock 99;", 1);
        reads("sock 1;wear 0 0;", 2);
        reads("sock 1;darn 0 0 0 1;wear 8 5;", 3);
    }

    static void promise10_aTextOf150Bytes() {
        Edges.due("bytes", NINETEEN_ITEMS.length(), 150);
        reads(NINETEEN_ITEMS, 19);
        reads("sock 88;" + "darn 0 0 0 9;" + "wear 0 1;".repeat(14) + "   ", 16);
        Edges.due("one more is not in it", readOf(NINETEEN_ITEMS + "x"), 19);
        fault(NINETEEN_ITEMS.substring(0, 149), 149);
        fault(NINETEEN_ITEMS.substring(0, 149) + "x", 149);
        fault("sock1;" + "wear1 1;".repeat(17) + "wear1 1 ", 150);
        fault("sock1;" + "wear1 1;".repeat(17) + "wear1  1", 150);
        fault(" ".repeat(150), 150);
        fault("a".repeat(150), 0);
        fault("1".repeat(150), 0);
    }

    static void promise10_aTokenThatEndsTheTextOf150Bytes() {
        String most = "sock1;" + "wear1 1;".repeat(17);
        fault(most + "    wear", 150);
        fault(most + "    darn", 150);
        fault(most + "    weax", 146);
        fault(most + "    xear", 146);
        fault(most + "    sock", 146);
        fault(most + "wear1 11", 150);
        fault(most + "wear1111", 146);
        fault(most + "wear1 ; ", 148);
        reads(most + "        ", 18);
    }

    static void promise10_bytesBehindTheTextsLengthAreNone() {
        String[][] cases = {{"sock 1;wears", "sock 1;wear"}, {"sock 1;wear 1 123", "sock 1;wear 1 12"}, {"sock 1;", "sock 1"}, {"sock 1;        x", "sock 1; "}};
        int[] answers = {-21, -26, -16, 1};
        for (int i = 0; i < cases.length; i++) {
            DarnedSock x = Edges.type(new DarnedSock(), cases[i][0]);
            x.clear();
            Edges.type(x, cases[i][1]);
            Edges.due("\"" + cases[i][1] + "\" typed over \"" + cases[i][0] + "\"", x.read(), answers[i]);
        }
    }

    static void promise10_blanksStandBetween() {
        reads("  sock  7  ;  wear  8  5  ;  ", 2);
        reads("sock7;wear8 5;darn0 0 0 1;", 3);
        reads("sock 7 ;", 1);
        fault("wear", 0);
        fault("so ck 1;", 0);
        fault("sock 1 2;", 7);
    }

    static void promise10_onlyByte32IsABlank() {
        for (int b : new int[] {0, 9, 10, 11, 12, 13, 31, 33, 127}) {
            fault("sock" + (char) b + "1;", 4);
            fault("sock 1;" + (char) b, 7);
            fault((char) b + "sock 1;", 0);
        }
    }

    static void promise10_aNumberOfTwoFiguresIsTheLongest() {
        reads("sock 00;", 1);
        reads("sock 01;wear 08 05;darn 00 05 02 30;", 3);
        DarnedSock x = Edges.type(new DarnedSock(), "sock 09;wear 08 05;darn 07 03 02 30;");
        x.read();
        Edges.due("year", x.count(2), 9);
        Edges.due("wears", x.cell(8, 0), 5);
        Edges.due("thread", x.of(7, 0, 2), 30);
    }

    static void promise10_bothEndsOfFiguresAndLetters() {
        DarnedSock x = Edges.type(new DarnedSock(), "sock 90;");
        x.read();
        Edges.due("year", x.count(2), 90);
        for (char b : new char[] {'/', ':'}) fault("sock " + b + ";", 5);
        for (char b : new char[] {'`', '{', '@', '['}) fault("sock 1;" + b + "wear 1 1;", 7);
        fault("sock 1;a", 7);
        fault("sock 1;z", 7);
        fault("socka 1;", 0);
        fault("sockz 1;", 0);
    }

    // ---- promise 10: faults

    static void promise10_faultOfAnEmptyTextIsItsLength() {
        fault("", 0);
        fault(" ", 1);
        fault("     ", 5);
    }

    static void promise10_faultOfATextThatEndsTooEarlyIsItsLength() {
        String whole = "sock 1;darn 1 1 1 1;";
        for (int end : new int[] {4, 5, 6, 11, 12, 13, 14, 15, 16, 17, 18, 19}) fault(whole.substring(0, end), end);
        fault("sock 1  ", 8);
        fault("sock 1;wear 1 1   ", 18);
        fault("sock 1;wear", 11);
        fault("sock 1;wear 1", 13);
        reads(whole.substring(0, 7), 1);
    }

    static void promise10_faultOfAWordThatIsNone() {
        for (String word : new String[] {"s", "so", "soc", "socks", "sockk", "tock", "sick", "sodk", "socl", "wear", "darn"}) {
            fault(word + " 1;", 0);
        }
        for (String word : new String[] {"w", "wea", "wears", "bear", "weer", "wewr", "weat", "dar", "darnd", "barn", "dern", "dawn", "dark", "sockwear"}) {
            fault("sock 1; " + word + " 1 1;", 8);
        }
        fault("sock 1;wear one 1;", 12);
    }

    static void promise10_faultOfSockAgain() {
        fault("sock 1;sock 1;", 7);
        fault("sock 1;wear 1 1; sock 1;", 17);
        fault("sock sock 1;", 5);
        fault("sock 1;sock", 7);
    }

    static void promise10_faultOfAnythingAheadOfSock() {
        fault("wear 1 1;sock 1;", 0);
        fault(" darn 1 1 1 1;sock 1;", 1);
        fault("; sock 1;", 0);
        fault("1 sock 1;", 0);
        fault("  123 sock 1;", 2);
        fault("x sock 1;", 0);
        fault("! sock 1;", 0);
    }

    static void promise10_faultOfANumberOfMoreThanTwoFigures() {
        fault("sock 100;", 5);
        fault("sock 000;", 5);
        fault("sock 1;wear 001 1;", 12);
        fault("sock 1;wear 1 001;", 14);
        fault("sock 1;darn 001 1 1 1;", 12);
        fault("sock 1;darn 1 1 1 001;", 18);
        fault("sock 1;wear 1 1 001;", 16);
        fault("sock " + "9".repeat(20) + ";", 5);
    }

    static void promise10_faultOfTooFewOrTooManyNumbers() {
        fault("sock;", 4);
        fault("sock 1 1;", 7);
        fault("sock 1;wear;", 11);
        fault("sock 1;wear 1;", 13);
        fault("sock 1;wear 1 1 1;", 16);
        fault("sock 1;darn;", 11);
        fault("sock 1;darn 1 1 1;", 17);
        fault("sock 1;darn 1 1 1 1 1;", 20);
    }

    static void promise10_faultOfAnEndThatIsNone() {
        fault(";", 0);
        fault("sock 1;;", 7);
        fault("sock 1; ;", 8);
        fault("sock 1 wear 1 1;", 7);
        fault("sock 1;wear ; 1 1;", 12);
        fault("sock 1;1;", 7);
    }

    static void promise10_faultOfAnyByteWhereAnItemBegins() {
        for (int b = 0; b <= 127; b++) {
            if (b == ' ') reads("sock 1;" + (char) b, 1);
            else fault("sock 1;" + (char) b, 7);
        }
    }

    static void promise10_faultOfAnyByteWhereANumberStands() {
        for (int b = 0; b <= 127; b++) {
            if (b == ' ' || isFigure(b)) fault("sock " + (char) b, 6);
            else fault("sock " + (char) b, 5);
        }
    }

    static void promise10_faultOfAnyByteWhereAnItemEnds() {
        for (int b = 0; b <= 127; b++) {
            if (b == ';') reads("sock 1;", 1);
            else if (b == ' ' || isFigure(b)) fault("sock 1" + (char) b, 7);
            else fault("sock 1" + (char) b, 6);
        }
    }

    static void promise10_faultOfAnyByteInAWord() {
        for (int b = 0; b <= 127; b++) {
            if (b == 'k') reads("soc" + (char) b + " 1;", 1);
            else fault("soc" + (char) b + " 1;", 0);
        }
    }

    static void promise10_theFirstFaultIsTold() {
        fault("sock 1;wear 1 x;wear;!", 14);
        fault("sock 100;sock", 5);
        fault("sock !100", 5);
    }

    // ---- promise 10: items that are refused

    static void promise10_theFirstItemThatIsRefused() {
        refusedItem("sock 1;wear 9 1;", 1);
        refusedItem("sock 1;wear 8 5;wear 9 1;wear 9 1;", 2);
        refusedItem("sock1;" + "wear1 1;".repeat(17) + "wear9 1;", 18);
        refusedItem("sock1;" + "wear9 1;".repeat(18), 1);
    }

    static void promise10_anItemIsRefusedAsItsCallIs() {
        refusedItem("sock 1;wear 9 5;", 1);
        refusedItem("sock 1;wear 0 6;", 1);
        refusedItem("sock 1;wear 99 99;", 1);
        refusedItem("sock 1;darn 9 5 2 30;", 1);
        refusedItem("sock 1;darn 8 6 2 30;", 1);
        refusedItem("sock 1;darn 8 5 3 30;", 1);
        refusedItem("sock 1;darn 8 5 2 31;", 1);
        refusedItem("sock 1;darn 8 5 2 0;", 1);
        reads("sock 1;wear 8 5;wear 0 0;darn 8 5 2 30;darn 0 0 0 1;", 5);
    }

    static void promise10_theFourthDarnOfACellIsFull() {
        String darn = "darn 8 0 0 1;";
        reads("sock 1;" + darn.repeat(3), 4);
        refusedItem("sock 1;" + darn.repeat(4), 4);
        refusedItem("sock 1;" + darn.repeat(3) + "darn 0 0 0 1;" + darn, 5);
        Edges.due("darns that there were do not count", livedWith("sock 1;" + "darn 0 0 0 1;".repeat(3)).read(), 4);
    }

    static void promise10_aFaultGoesAheadOfARefusedItem() {
        fault("sock 1;wear 9 9;x", 16);
        fault("sock 1;wear 9 9", 15);
        fault("sock 1;darn 9 9 9 99;darn 1 1 1 100;", 32);
    }

    static void promise10_nothingChangesByAFault() {
        for (String text : new String[] {"", "   ", "sock", "sock 1;wear 1 1;x", "wear 1 1;", "sock 7;darn 1 1 1 1;darn 1 1 1 100;"}) {
            Edges.asks("read of \"" + text + "\"", () -> livedWith(text), DarnedSock::read, readOf(text));
        }
    }

    static void promise10_nothingChangesByARefusedItem() {
        for (String text : new String[] {"sock 7;wear 9 1;", "sock 7;wear 3 3;darn 1 1 1 1;darn 1 1 1 31;", "sock 7;" + "darn 8 0 0 1;".repeat(4)}) {
            Edges.asks("read of \"" + text + "\"", () -> livedWith(text), DarnedSock::read, readOf(text));
        }
    }

    // ---- promise 10: what is told anew

    static void promise10_theSockIsToldByTheseAlone() {
        DarnedSock x = livedWith("sock 40;wear 3 0;darn 3 1 2 30;darn 3 5 0 1;");
        Edges.due("read", x.read(), 4);
        Edges.due("darns", x.count(0), 2);
        Edges.due("holes", x.holes(0), 511 - 8);
        Edges.due("year", x.count(2), 40);
        for (int c = 0; c < 9; c++) Edges.due("cell " + c + " wears", x.cell(c, 0), c == 3 ? 0 : 1);
        int[][] darns = {{1, 2, 30, 40}, {5, 0, 1, 40}};
        for (int place = 0; place < 2; place++) {
            for (int what = 0; what < 4; what++) Edges.due("of " + place + " " + what, x.of(3, place, what), darns[place][what]);
        }
    }

    static void promise10_readingsNoneAndNothingToUndo() {
        DarnedSock x = Edges.lived();
        x.read();
        Edges.due("readings", x.count(3), 0);
        Edges.due("that may be undone", x.count(4), 0);
        Edges.due("undo", x.undo(), -3);
    }

    static void promise10_textFractionImagesStatusStay() {
        DarnedSock x = Edges.lived();
        Edges.due("read", x.read(), 2);
        Edges.due("text", x.count(5), 20);
        Edges.due("read again", x.read(), 2);
        Edges.fraction("fraction", x, 11, 41);
        Edges.status("status", x, 0, 0, 0);
        Edges.due("image", x.from(0), 1);
        Edges.due("its darns", x.count(0), 5);
    }

    static void promise10_itemsInTheirOrder() {
        DarnedSock x = livedWith("sock 2;wear 5 1;wear 5 4;wear 5 3;darn 5 0 0 1;darn 5 1 0 2;darn 5 2 0 3;");
        Edges.due("read", x.read(), 7);
        Edges.due("the last wear", x.cell(5, 0), 3);
        for (int place = 0; place < 3; place++) Edges.due("place " + place, x.of(5, place, 0), place);
    }
}
