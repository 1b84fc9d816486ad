import java.util.ArrayList;
import java.util.List;

/** Edges of promises 29 to 34: the fraction, images, what was refused, counts, the digest; and rule 7. */
public final class EdgesImagesTest {
    public static void main(String[] args) {
        Edges.runAll(EdgesImagesTest.class);
    }

    // ---- promise 29

    static void promise29_whatIs0To1() {
        Edges.range("what", Edges::lived, DarnedSock::part, 0, 11, 1, 41);
        Edges.range("what, at first", DarnedSock::new, DarnedSock::part, 0, 0, 1, 1);
    }

    static void promise29_belowIsAbove0() {
        DarnedSock x = Edges.lived();
        x.sock(0);
        for (int f = 0; f < 3; f++) {
            x.share(f);
            Edges.fraction("share " + f, x, 0, 1);
        }
        x.darn(0, 0, 0, 30);
        x.odds(0, 8, 10);
        Edges.fraction("odds", x, 0, 1);
    }

    static void promise29_refusedCallsLeaveIt() {
        DarnedSock x = Edges.lived();
        x.share(3);
        x.odds(0, 0, 11);
        x.part(2);
        x.undo();
        x.sock(5);
        x.read();
        Edges.fraction("as it was", x, 11, 41);
    }

    // ---- promise 30

    static void promise30_iIs0To1() {
        Edges.range("i", Edges::lived, DarnedSock::image, 0, 1, 1, 1);
        Edges.range("i, none was kept", DarnedSock::new, DarnedSock::image, 0, 1, 1, 1);
    }

    static void promise30_eachIsKeptApart() {
        DarnedSock x = new DarnedSock();
        x.image(0);
        x.years(1);
        x.image(1);
        x.years(1);
        x.from(0);
        Edges.due("0", x.count(2), 0);
        x.from(1);
        Edges.due("1", x.count(2), 1);
    }

    static void promise30_aNewerOneTakesItsPlace() {
        DarnedSock x = Edges.lived();
        x.image(0);
        x.sock(50);
        x.from(0);
        Edges.due("year", x.count(2), 6);
        Edges.due("darns", x.count(0), 4);
        x.from(1);
        Edges.due("the other one is as it was", x.count(0), 5);
    }

    static void promise30_whatComesLaterLeavesIt() {
        DarnedSock x = Edges.lived();
        x.darn(5, 0, 0, 5);
        x.wear(5, 5);
        x.reading(5, 5, 5);
        x.unpick(0);
        x.years(3);
        x.undo();
        x.from(1);
        Edges.due("darns", x.count(0), 5);
        Edges.due("year", x.count(2), 6);
        Edges.due("wears", x.cell(5, 0), 1);
        Edges.due("readings", x.count(3), 2);
        Edges.due("that may be undone", x.count(4), 6);
    }

    static void promise30_mayNotBeUndoneItself() {
        DarnedSock x = new DarnedSock();
        x.image(0);
        Edges.due("count", x.count(4), 0);
    }

    // ---- promise 31

    static void promise31_iIs0To1() {
        Edges.range("i", Edges::lived, DarnedSock::from, 0, 1, 1, 1);
    }

    static void promise31_noneWasKept() {
        Edges.no("0", DarnedSock::new, x -> x.from(0));
        Edges.no("1", DarnedSock::new, x -> x.from(1));
        Edges.Make zero = () -> {
            DarnedSock x = Edges.woollen(1, 5);
            x.image(0);
            return x;
        };
        Edges.takes("0 was kept", zero, x -> x.from(0), 1);
        Edges.no("1 was not", zero, x -> x.from(1));
        Edges.Make one = () -> {
            DarnedSock x = Edges.woollen(1, 5);
            x.image(1);
            return x;
        };
        Edges.no("0 was not", one, x -> x.from(0));
        Edges.takes("1 was kept", one, x -> x.from(1), 1);
    }

    static void promise31_badGoesAheadOfNo() {
        for (int i : new int[] {-1, 2, Edges.LOW, Edges.HIGH}) Edges.bad("i " + i, DarnedSock::new, x -> x.from(i));
    }

    static void promise31_textFractionStatusImagesAreNotKept() {
        DarnedSock x = new DarnedSock();
        x.darn(0, 0, 0, 2);
        x.image(0);
        Edges.type(x, "abc");
        x.share(0);
        x.count(6);
        x.undo();
        x.undo();
        for (int i = 0; i < 7; i++) x.reading(0, 0, 0);
        x.image(1);
        x.from(0);
        Edges.due("text", x.count(5), 3);
        Edges.fraction("fraction", x, 1, 1);
        Edges.status("status", x, 1, 1, 1);
        Edges.due("image 1 is there", x.from(1), 1);
        Edges.due("its readings", x.count(3), 6);
        Edges.due("its darns", x.count(0), 0);
    }

    static void promise31_allElseIsKept() {
        DarnedSock x = Edges.lived();
        long counts = x.digest();
        x.image(0);
        x.sock(33);
        x.wear(0, 5);
        x.darn(0, 0, 0, 1);
        x.from(0);
        Edges.due("digest", x.digest(), counts);
        for (int i = 0; i < 20; i++) x.type(65 + i);
        x.from(0);
        Edges.due("bytes of the text go on", x.count(5), 40);
    }

    static void promise31_whatMayBeUndoneIsKept() {
        DarnedSock x = new DarnedSock();
        x.years(20);
        x.image(0);
        x.sock(70);
        x.from(0);
        Edges.due("eight", x.count(4), 8);
        for (int year = 19; year >= 12; year--) {
            x.undo();
            Edges.due("year", x.count(2), year);
        }
        Edges.due("no more", x.undo(), -3);
        x.from(0);
        Edges.due("undoing leaves the image", x.count(4), 8);
        x.undo();
        Edges.due("year", x.count(2), 19);
        DarnedSock y = new DarnedSock();
        y.image(0);
        y.years(5);
        y.from(0);
        Edges.due("none may be", y.undo(), -3);
    }

    static void promise31_eachOfEightThatMayBeUndoneIsKept() {
        DarnedSock x = new DarnedSock();
        for (int c = 0; c < 9; c++) x.darn(c, c % 6, c % 3, c + 1);
        long[] digests = new long[8];
        x.image(1);
        for (int i = 0; i < 8; i++) {
            x.undo();
            digests[i] = x.digest();
        }
        x.sock(70);
        for (int i = 0; i < 11; i++) x.years(1);
        x.from(1);
        for (int i = 0; i < 8; i++) {
            x.undo();
            Edges.due("undone " + (i + 1), x.digest(), digests[i]);
        }
        Edges.due("no more", x.undo(), -3);
    }

    static void promise31_sixReadingsAreKept() {
        DarnedSock x = new DarnedSock();
        for (int i = 0; i < 6; i++) x.reading(8 - i, 20 - i, 30 - i);
        long digest = x.digest();
        x.image(0);
        x.forget();
        for (int i = 0; i < 6; i++) x.reading(i, i, i);
        x.from(0);
        Edges.due("digest", x.digest(), digest);
    }

    static void promise31_goingOnLeavesTheImage() {
        DarnedSock x = Edges.lived();
        for (int i = 0; i < 3; i++) {
            x.from(1);
            Edges.due("darns", x.count(0), 5);
            Edges.due("wears", x.cell(0, 0), 2);
            x.unpick(0);
            x.wear(0, 5);
            x.forget();
            x.years(1);
        }
    }

    // ---- promise 32

    static void promise32_whatIs0To2() {
        DarnedSock x = new DarnedSock();
        x.sock(-1);
        x.undo();
        x.undo();
        for (int i = 0; i < 6; i++) x.darn(0, 0, 0, 1);
        Edges.due("BAD", x.status(0), 1);
        Edges.due("NO", x.status(1), 2);
        Edges.due("FULL", x.status(2), 3);
    }

    static void promise32_anotherCountsAsBad() {
        for (int what : new int[] {-1, 3, Edges.LOW, Edges.HIGH}) {
            Edges.refused("status " + what, Edges::lived, x -> x.status(what), -1, Edges.BAD);
        }
    }

    static void promise32_askingCountsNothing() {
        DarnedSock x = new DarnedSock();
        for (int i = 0; i < 9; i++) Edges.due("status " + i % 3, x.status(i % 3), 0);
    }

    static void promise32_answersOfOtherKindsAreNoRefusals() {
        DarnedSock x = Edges.type(new DarnedSock(), "sock 1;wear 9 9;");
        x.of(0, 0, 0);
        x.owner(0, 0);
        x.twos(0);
        x.look(0);
        x.orders(511, 0);
        Edges.due("a refused item", x.read(), -1001);
        x.type(65);
        Edges.due("a fault", x.read(), -26);
        Edges.status("none", x, 0, 0, 0);
        DarnedSock full = Edges.filled();
        full.best(1, 0, 0);
        full.split(2, 0, 0);
        Edges.status("none", full, 0, 0, 0);
    }

    static void promise32_refusedItemsAreNone() {
        DarnedSock x = Edges.type(new DarnedSock(), "sock 1;darn 9 9 9 99;");
        for (int i = 0; i < 5; i++) x.read();
        Edges.status("BAD items", x, 0, 0, 0);
        DarnedSock y = Edges.type(new DarnedSock(), "sock 1;" + "darn 0 0 0 1;".repeat(4));
        y.read();
        Edges.status("FULL items", y, 0, 0, 0);
    }

    static void promise32_eachRefusalIsCountedOnce() {
        DarnedSock x = Edges.filled();
        List<Edges.Call> bad = List.of(
            y -> y.sock(100), y -> y.wear(9, 9), y -> y.darn(9, 9, 9, 99), y -> y.unpick(9), y -> y.years(0), y -> y.type(128),
            y -> y.of(9, 9, 9), y -> y.cell(9, 9), y -> y.claims(9, 9), y -> y.owner(9, 99), y -> y.laws(9), y -> y.share(9),
            y -> y.twos(9), y -> y.holes(41), y -> y.best(0, 9, 9), y -> y.split(0, 9, 9), y -> y.reading(9, 99, 99), y -> y.may(9),
            y -> y.look(9), y -> y.orders(512, -2), y -> y.odds(9, 9, 99), y -> y.drawn(-1, 99), y -> y.part(2), y -> y.image(2),
            y -> y.from(2), y -> y.status(3), y -> y.count(6));
        for (int i = 0; i < bad.size(); i++) {
            bad.get(i).on(x);
            Edges.due("BAD by call " + i, x.status(0), i + 1);
        }
        x.orders(511, -1);
        x.from(0);
        Edges.status("two of NO", x, 27, 2, 0);
    }

    // ---- promise 33

    static void promise33_whatIs0To5() {
        Edges.range("what", Edges::lived, DarnedSock::count, 0, 4, 5, 20);
        int[] counts = {4, 7, 6, 2, 7, 20};
        for (int what = 0; what <= 5; what++) {
            int w = what;
            Edges.asks("count " + what, Edges::lived, x -> x.count(w), counts[what]);
        }
    }

    static void promise33_mostOfEach() {
        DarnedSock x = Edges.filled();
        for (int i = 0; i < 6; i++) x.reading(8, 20, 30);
        Edges.type(x, "a".repeat(150));
        int[] counts = {27, 0, 0, 6, 8, 150};
        for (int what = 0; what <= 5; what++) Edges.due("count " + what, x.count(what), counts[what]);
    }

    // ---- promise 34

    private static long hashed(long... values) {
        long h = 1061;
        for (long v : values) h = 31 * h + v;
        return h;
    }

    static void promise34_ofANewSock() {
        Edges.due("digest", new DarnedSock().digest(),
            hashed(0, 9, 0, 0, 0, 0, 1, 0, 1, 0, 1, 0, 1, 0, 1, 0, 1, 0, 1, 0, 1, 0, 1, 0, 0, 1));
    }

    static void promise34_ofALivedSock() {
        Edges.asks("digest", Edges::lived, DarnedSock::digest, hashed(4, 7, 6, 2, 7, 20,
            2, 3, 0, 0, 10, 5, 5, 1, 6, 5, 3, 2, 8, 5, 1, 0, 1, 0, 1, 0, 1, 1, 4, 2, 8, 5, 1, 0, 1, 0, 1, 0, 0, 0,
            0, 1, 7, 4, 2, 2, 11, 41));
    }

    static void promise34_ofAFullSockGoesAroundTheLong() {
        DarnedSock x = new DarnedSock();
        List<Long> values = new ArrayList<>(List.of(27L, 0L, 0L, 6L, 8L, 150L));
        for (int c = 0; c < 9; c++) {
            x.wear(c, 5);
            values.add(5L);
            values.add(3L);
            for (int i = 0; i < 3; i++) {
                x.darn(c, 5, 2, 30);
                values.addAll(List.of(5L, 2L, 30L, 0L));
            }
        }
        for (int i = 0; i < 6; i++) {
            x.reading(8, 20, 30);
            values.addAll(List.of(8L, 20L, 30L));
        }
        Edges.type(x, "a".repeat(150));
        values.addAll(List.of(0L, 1L));
        Edges.due("digest", x.digest(), hashed(values.stream().mapToLong(v -> v).toArray()));
    }

    static void promise34_readingsAsTheyCome() {
        DarnedSock x = new DarnedSock();
        x.reading(8, 20, 30);
        x.reading(0, 0, 0);
        DarnedSock y = new DarnedSock();
        y.reading(0, 0, 0);
        y.reading(8, 20, 30);
        Edges.due("one behind the other", x.digest() == y.digest() ? 1 : 0, 0);
    }

    static void promise34_notByStatusBytesOrImages() {
        DarnedSock x = Edges.type(new DarnedSock(), "ab");
        long digest = x.digest();
        x.count(6);
        x.undo();
        x.image(0);
        x.clear();
        Edges.type(x, "yz");
        Edges.due("digest", x.digest(), digest);
    }

    // ---- rule 7: no call throws, whatever its numbers and whatever there is

    private static final int[] NUMBERS = {Edges.LOW, -2, -1, 0, 1, 2, 3, 5, 6, 8, 9, 20, 21, 30, 31, 40, 41, 127, 150, 511, 512, 999999, Edges.HIGH};

    static void rule07_noCallThrowsByItsNumbers() {
        for (int state = 0; state < 4; state++) {
            for (int a : NUMBERS) {
                for (int b : NUMBERS) {
                    DarnedSock x = state == 0 ? new DarnedSock() : state == 1 ? Edges.lived() : state == 2 ? Edges.filled() : Edges.woollen(2, 1);
                    askAll(x, a, b);
                }
            }
        }
        Edges.due("none threw", 1, 1);
    }

    private static void askAll(DarnedSock x, int a, int b) {
        for (int c : new int[] {-1, 0, 2, 5, 31}) {
            x.of(a, b, c);
            x.best(a, b, c);
            x.split(a, b, c);
            x.odds(a, b, c);
            x.reading(a, b, c);
            x.darn(a, b, 1, c);
            x.darn(1, 1, a, b);
        }
        x.claims(a, b);
        x.owner(a, b);
        x.orders(a, b);
        x.drawn(a, b);
        x.wear(a, b);
        x.cell(a, b);
        x.years(a);
        x.unpick(a);
        x.type(a);
        x.laws(a);
        x.share(a);
        x.twos(a);
        x.holes(a);
        x.may(a);
        x.look(a);
        x.part(a);
        x.image(a);
        x.from(b);
        x.status(a);
        x.count(a);
        x.read();
        x.whole();
        x.undo();
        x.digest();
        x.sock(a);
    }

    static void rule07_noCallThrowsBehind512() {
        DarnedSock x = Edges.lived();
        for (int i = 0; i < 2000; i++) {
            x.darn(i % 9, i % 6, i % 3, 30);
            x.years(1 + i % 20);
            x.type(i % 128);
            x.reading(i % 9, 0, 0);
            x.image(i % 2);
            x.from(i % 2);
        }
        Edges.due("none threw", 1, 1);
    }
}
