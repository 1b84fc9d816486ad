import java.lang.reflect.InvocationTargetException;
import java.lang.reflect.Method;
import java.util.ArrayList;
import java.util.List;
import java.util.Map;
import java.util.TreeMap;

/**
 * What the tests of edges share. A test is a static method whose name begins with the number of its promise;
 * what it says behind that is the sentence of the document that would be broken.
 */
final class Edges {
    static final int LOW = Integer.MIN_VALUE, HIGH = Integer.MAX_VALUE;
    /** What status has to count of a call; UNCOUNTED: its answer is no refusal. */
    static final int BAD = 0, NO = 1, FULL = 2, UNCOUNTED = -1;

    interface Make {
        DarnedSock sock();
    }

    interface Call {
        long on(DarnedSock x);
    }

    interface NumberCall {
        long on(DarnedSock x, int n);
    }

    private static String test = "";
    private static int asked = 0;
    private static int wrong = 0;

    private Edges() {
    }

    static void runAll(Class<?> tests) {
        Map<String, Method> byName = new TreeMap<>();
        for (Method m : tests.getDeclaredMethods()) {
            if (m.getName().startsWith("promise") || m.getName().startsWith("rule")) byName.put(m.getName(), m);
        }
        int broken = 0;
        for (Map.Entry<String, Method> one : byName.entrySet()) {
            test = one.getKey();
            int before = wrong;
            call(one.getValue());
            if (wrong != before) broken++;
        }
        System.out.println(byName.size() + " tests of edges, " + asked + " answers, " + broken + " tests failed");
        if (broken != 0 || byName.isEmpty()) System.exit(1);
    }

    private static void call(Method m) {
        try {
            m.invoke(null);
        } catch (InvocationTargetException thrown) {
            wrong++;
            System.out.println(test + ": threw " + thrown.getCause());
        } catch (IllegalAccessException hidden) {
            wrong++;
            System.out.println(test + ": can not be called");
        }
    }

    static void due(String what, long got, long want) {
        asked++;
        if (got == want) return;
        wrong++;
        System.out.println(test + ": " + what + " answered " + got + ", due is " + want);
    }

    static void fraction(String what, DarnedSock x, long above, long below) {
        due(what + ", above", x.part(0), above);
        due(what + ", below", x.part(1), below);
    }

    static void status(String what, DarnedSock x, int bad, int no, int full) {
        due(what + ", BAD", x.status(0), bad);
        due(what + ", NO", x.status(1), no);
        due(what + ", FULL", x.status(2), full);
    }

    static DarnedSock type(DarnedSock x, String text) {
        for (int i = 0; i < text.length(); i++) x.type(text.charAt(i));
        return x;
    }

    /** Each cell has as many darns of wool, of one family and one thread; cells wear 1. */
    static DarnedSock woollen(int darns, int thread) {
        DarnedSock x = new DarnedSock();
        for (int c = 0; c < 9; c++) {
            for (int i = 0; i < darns; i++) x.darn(c, 0, 0, thread);
        }
        return x;
    }

    static DarnedSock filled() {
        return woollen(3, 30);
    }

    /**
     * A sock of which every part has something in it, so that a change of any part shows. Now, in year 6:
     * cell 0 (wears 2) has wool 10 of family 0, a lien 6 of 1, blue 8 of 2; cell 4 has mothed 8 of 2; all of year 5.
     * Seven acts may be undone; the fraction is 11 by 41.
     */
    static DarnedSock lived() {
        DarnedSock x = new DarnedSock();
        x.sock(5);
        x.wear(0, 2);
        x.wear(8, 0);
        x.darn(0, 0, 0, 10);
        x.darn(0, 5, 1, 6);
        x.darn(0, 3, 2, 9);
        x.darn(8, 1, 1, 8);
        x.darn(4, 4, 2, 12);
        x.image(0);
        x.years(1);
        x.reading(0, 1, 7);
        x.reading(4, 2, 2);
        x.image(1);
        x.unpick(8);
        type(x, "sock 7;darn 1 1 1 1;");
        x.share(1);
        return x;
    }

    /** All that can be learnt of a sock but status: what may be undone, images and the text, too. It is used up by it. */
    static List<Long> insides(DarnedSock x) {
        List<Long> all = new ArrayList<>();
        all.add(x.digest());
        all.add(x.part(0));
        all.add(x.part(1));
        for (int c = 0; c < 9; c++) {
            all.add((long) x.may(c));
            all.add((long) x.look(c));
        }
        undoAll(x, all);
        for (int i = 0; i < 2; i++) {
            all.add((long) x.from(i));
            all.add(x.digest());
            undoAll(x, all);
        }
        all.add((long) x.read());
        all.add(x.digest());
        return all;
    }

    private static void undoAll(DarnedSock x, List<Long> all) {
        for (int i = 0; i < 9; i++) {
            all.add((long) x.undo());
            all.add(x.digest());
        }
    }

    /** The call has that answer, status counts it as told, and nothing else changes. */
    static void refused(String what, Make make, Call call, long answer, int reason) {
        DarnedSock x = make.sock();
        int[] counted = new int[3];
        for (int i = 0; i < 3; i++) counted[i] = x.status(i);
        due(what, call.on(x), answer);
        for (int i = 0; i < 3; i++) {
            due(what + ", then status " + i, x.status(i), counted[i] + (i == reason ? 1 : 0));
        }
        due(what + ", all else as it was", insides(x).equals(insides(make.sock())) ? 1 : 0, 1);
    }

    static void bad(String what, Make make, Call call) {
        refused(what, make, call, -2, BAD);
    }

    static void no(String what, Make make, Call call) {
        refused(what, make, call, -3, NO);
    }

    static void full(String what, Make make, Call call) {
        refused(what, make, call, -4, FULL);
    }

    /** A question: it has that answer and changes nothing at all. */
    static void asks(String what, Make make, Call call, long answer) {
        refused(what, make, call, answer, UNCOUNTED);
    }

    /** The call takes a number: status counts nothing. */
    static void takes(String what, Make make, Call call, long answer) {
        DarnedSock x = make.sock();
        int before = x.status(0) + x.status(1) + x.status(2);
        due(what, call.on(x), answer);
        due(what + ", counted as refused", x.status(0) + x.status(1) + x.status(2), before);
    }

    /** Both ends are taken, with these answers; what is next to them and the farthest numbers are refused as BAD. */
    static void range(String what, Make make, NumberCall call, int least, long atLeast, int most, long atMost) {
        takes(what + " " + least, make, x -> call.on(x, least), atLeast);
        takes(what + " " + most, make, x -> call.on(x, most), atMost);
        for (int n : new int[] {least - 1, most + 1, LOW, HIGH}) bad(what + " " + n, make, x -> call.on(x, n));
    }
}
