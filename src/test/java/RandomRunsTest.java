import java.util.ArrayList;
import java.util.List;
import java.util.Random;

/** Runs of calls by fixed seeds: the program has to answer as the naive sock does, call by call. */
public final class RandomRunsTest {
    private static final int RUNS = 400, CALLS = 512;
    private static final String[] NAMES = {
        "sock", "wear", "darn", "unpick", "years", "undo", "type", "clear", "read", "of", "cell",
        "claims", "owner", "laws", "share", "twos", "whole", "holes", "best", "split",
        "reading", "forget", "may", "look", "orders", "odds", "drawn",
        "part", "image", "from", "status", "count", "digest"
    };

    private final Random random;
    private final DarnedSock sock = new DarnedSock();
    private final NaiveSock naive = new NaiveSock();
    private final List<String> calls = new ArrayList<>();
    private boolean wrong;

    private RandomRunsTest(long seed) {
        random = new Random(seed);
    }

    public static void main(String[] args) {
        int runs = args.length > 0 ? Integer.parseInt(args[0]) : RUNS;
        long first = args.length > 1 ? Long.parseLong(args[1]) : 1;
        int bad = 0;
        for (int run = 0; run < runs; run++) {
            RandomRunsTest one = new RandomRunsTest(first + run);
            one.run(run % 5);
            if (one.wrong) bad++;
        }
        System.out.println(runs + " random runs, " + bad + " wrong");
        if (bad != 0) System.exit(1);
    }

    private void run(int sort) {
        if (sort <= 2) {
            fillCells(1 + sort);
            check("image", 0);
        }
        while (calls.size() < CALLS && !wrong) {
            if (sort <= 2) lastingCall();
            else if (sort == 3 && random.nextInt(40) == 0) typeSock();
            else if (sort == 4 && random.nextInt(3) != 0) freeCall(random.nextInt(NAMES.length));
            else call(pick());
        }
    }

    /** The sock comes back to its image again and again, else most answers would be those of a sock of holes. */
    private void lastingCall() {
        int r = random.nextInt(60);
        if (r < 4) check("from", 0);
        else if (r == 4) check("image", 1);
        else if (r == 5) check("from", 1);
        else if (r < 9) check("years", 1 + random.nextInt(3));
        else if (r < 12) check("unpick", random.nextInt(9));
        else if (r < 17) check("darn", random.nextInt(9), random.nextInt(6), random.nextInt(3), 1 + random.nextInt(30));
        else if (r < 19) check("undo");
        else if (r < 21) check("wear", random.nextInt(9), random.nextInt(3));
        else if (r < 24) call("reading");
        else call(NAMES[9 + random.nextInt(NAMES.length - 9)]);
    }

    /** Changes come as often as questions, but the sock is seldom thrown away. */
    private String pick() {
        int r = random.nextInt(100);
        if (r < 18) return "darn";
        if (r < 22) return "years";
        if (r < 25) return "unpick";
        if (r < 29) return "undo";
        if (r < 33) return "wear";
        if (r < 37) return "reading";
        String name = NAMES[random.nextInt(NAMES.length)];
        boolean rare = name.equals("sock") || name.equals("read") || name.equals("from") || name.equals("forget");
        return rare && random.nextInt(3) != 0 ? "digest" : name;
    }

    private void fillCells(int most) {
        for (int c = 0; c < 9; c++) {
            check("wear", c, random.nextInt(3));
            for (int p = random.nextInt(most); p < most; p++) {
                check("darn", c, random.nextInt(6), random.nextInt(3), 8 + random.nextInt(23));
                if (random.nextInt(8) == 0) check("years", 1 + random.nextInt(2));
            }
        }
    }

    private int number(int least, int most) {
        int r = random.nextInt(40);
        if (r == 0) return least - 1;
        if (r == 1) return most + 1;
        if (r == 2) return random.nextBoolean() ? Integer.MAX_VALUE : Integer.MIN_VALUE;
        if (r < 6) return least;
        if (r < 9) return most;
        return least + random.nextInt(most - least + 1);
    }

    private void freeCall(int which) {
        int[] any = new int[4];
        for (int i = 0; i < 4; i++) any[i] = random.nextInt(12) == 0 ? random.nextInt() : random.nextInt(12) - 2;
        check(NAMES[which], any);
    }

    private void call(String name) {
        switch (name) {
            case "sock": check(name, number(0, 99)); break;
            case "wear": check(name, number(0, 8), number(0, 5)); break;
            case "darn": check(name, number(0, 8), number(0, 5), number(0, 2), number(1, 30)); break;
            case "years": check(name, random.nextBoolean() ? number(1, 3) : number(1, 20)); break;
            case "type": check(name, number(0, 127)); break;
            case "of": check(name, number(0, 8), number(0, 2), number(0, 5)); break;
            case "cell": check(name, number(0, 8), number(0, 1)); break;
            case "claims": check(name, number(0, 2), number(0, 3)); break;
            case "owner": check(name, number(0, 3), number(0, 40)); break;
            case "laws": case "share": check(name, number(0, 2)); break;
            case "twos": check(name, number(0, 3)); break;
            case "holes": check(name, number(0, 40)); break;
            case "best": check(name, number(1, 30), number(0, 5), number(0, 1)); break;
            case "split": check(name, number(2, 30), number(0, 5), number(0, 2)); break;
            case "reading": reading(); break;
            case "may": case "look": case "unpick": check(name, number(0, 8)); break;
            case "orders": check(name, random.nextBoolean() ? number(0, 511) : 1 << random.nextInt(9) | 1 << random.nextInt(9) | 1 << random.nextInt(9), random.nextBoolean() ? -1 : number(-1, 6)); break;
            case "odds": check(name, number(0, 8), number(0, 8), number(0, 10)); break;
            case "drawn": check(name, number(0, 999999), number(0, 20)); break;
            case "part": case "image": case "from": check(name, number(0, 1)); break;
            case "status": check(name, number(0, 2)); break;
            case "count": check(name, number(0, 5)); break;
            default: check(name);
        }
    }

    /** A reading by chance agrees with nothing: so it is often of what the sock will show. */
    private void reading() {
        int cell = number(0, 8), m = random.nextInt(4), v = number(0, 30);
        if (cell >= 0 && cell <= 8 && random.nextInt(4) != 0) {
            int top = sock.cell(cell, 1) - 1;
            int loss = sock.of(cell, Math.max(top, 0), 5), left = sock.of(cell, Math.max(top, 0), 2);
            naive.cell(cell, 1);
            naive.of(cell, Math.max(top, 0), 5);
            naive.of(cell, Math.max(top, 0), 2);
            if (top >= 0) v = Math.max(0, left - m * loss);
        }
        check("reading", cell, m, v);
        check("may", cell);
        check("look", cell);
    }

    private void typeSock() {
        check("clear");
        StringBuilder b = new StringBuilder();
        gap(b);
        b.append("sock");
        gap(b);
        b.append(random.nextInt(100)).append(';');
        int items = random.nextInt(14);
        for (int i = 0; i < items; i++) {
            gap(b);
            int slip = random.nextInt(30);
            if (random.nextInt(3) == 0) b.append("wear ").append(random.nextInt(9)).append(' ').append(random.nextInt(slip == 0 ? 12 : 6));
            else b.append("darn ").append(random.nextInt(slip == 1 ? 11 : 9)).append(' ').append(random.nextInt(6)).append("  ").append(random.nextInt(3)).append(' ').append(random.nextInt(slip == 2 ? 40 : 30) + (slip == 2 ? 0 : 1));
            gap(b);
            b.append(';');
        }
        gap(b);
        String[] slips = {"sock", "wear", ";", "A", "1", "12", "007", " ", "\t", "d", "{", "`", "/", ":"};
        for (int i = random.nextInt(5); i == 1; i = random.nextInt(5)) {
            int at = random.nextInt(b.length());
            if (random.nextBoolean()) b.insert(at, slips[random.nextInt(slips.length)]);
            else b.deleteCharAt(at);
        }
        if (random.nextInt(8) == 0) b.setLength(random.nextInt(b.length() + 1));
        for (int i = 0; i < b.length() && calls.size() < CALLS && !wrong; i++) check("type", b.charAt(i));
        check("read");
        check("digest");
        check("status", 0);
    }

    private void gap(StringBuilder b) {
        if (random.nextInt(4) == 0) b.append(' ');
    }

    private void check(String name, int... a) {
        if (wrong) return;
        int[] x = java.util.Arrays.copyOf(a, 4);
        long got = askSock(name, x), due = askNaive(name, x);
        calls.add(name + java.util.Arrays.toString(a) + " answered " + got);
        long state = sock.digest(), dueState = naive.digest();
        if (got == due && state == dueState) return;
        wrong = true;
        for (String call : calls) System.out.println("  " + call);
        System.out.println("  due is " + due + "; digest " + state + ", due is " + dueState);
    }

    private long askSock(String name, int[] x) {
        switch (name) {
            case "sock": return sock.sock(x[0]);
            case "wear": return sock.wear(x[0], x[1]);
            case "darn": return sock.darn(x[0], x[1], x[2], x[3]);
            case "unpick": return sock.unpick(x[0]);
            case "years": return sock.years(x[0]);
            case "undo": return sock.undo();
            case "type": return sock.type(x[0]);
            case "clear": return sock.clear();
            case "read": return sock.read();
            case "of": return sock.of(x[0], x[1], x[2]);
            case "cell": return sock.cell(x[0], x[1]);
            case "claims": return sock.claims(x[0], x[1]);
            case "owner": return sock.owner(x[0], x[1]);
            case "laws": return sock.laws(x[0]);
            case "share": return sock.share(x[0]);
            case "twos": return sock.twos(x[0]);
            case "whole": return sock.whole();
            case "holes": return sock.holes(x[0]);
            case "best": return sock.best(x[0], x[1], x[2]);
            case "split": return sock.split(x[0], x[1], x[2]);
            case "reading": return sock.reading(x[0], x[1], x[2]);
            case "forget": return sock.forget();
            case "may": return sock.may(x[0]);
            case "look": return sock.look(x[0]);
            case "orders": return sock.orders(x[0], x[1]);
            case "odds": return sock.odds(x[0], x[1], x[2]);
            case "drawn": return sock.drawn(x[0], x[1]);
            case "part": return sock.part(x[0]);
            case "image": return sock.image(x[0]);
            case "from": return sock.from(x[0]);
            case "status": return sock.status(x[0]);
            case "count": return sock.count(x[0]);
            default: return sock.digest();
        }
    }

    private long askNaive(String name, int[] x) {
        switch (name) {
            case "sock": return naive.sock(x[0]);
            case "wear": return naive.wear(x[0], x[1]);
            case "darn": return naive.darn(x[0], x[1], x[2], x[3]);
            case "unpick": return naive.unpick(x[0]);
            case "years": return naive.years(x[0]);
            case "undo": return naive.undo();
            case "type": return naive.type(x[0]);
            case "clear": return naive.clear();
            case "read": return naive.read();
            case "of": return naive.of(x[0], x[1], x[2]);
            case "cell": return naive.cell(x[0], x[1]);
            case "claims": return naive.claims(x[0], x[1]);
            case "owner": return naive.owner(x[0], x[1]);
            case "laws": return naive.laws(x[0]);
            case "share": return naive.share(x[0]);
            case "twos": return naive.twos(x[0]);
            case "whole": return naive.whole();
            case "holes": return naive.holes(x[0]);
            case "best": return naive.best(x[0], x[1], x[2]);
            case "split": return naive.split(x[0], x[1], x[2]);
            case "reading": return naive.reading(x[0], x[1], x[2]);
            case "forget": return naive.forget();
            case "may": return naive.may(x[0]);
            case "look": return naive.look(x[0]);
            case "orders": return naive.orders(x[0], x[1]);
            case "odds": return naive.odds(x[0], x[1], x[2]);
            case "drawn": return naive.drawn(x[0], x[1]);
            case "part": return naive.part(x[0]);
            case "image": return naive.image(x[0]);
            case "from": return naive.from(x[0]);
            case "status": return naive.status(x[0]);
            case "count": return naive.count(x[0]);
            default: return naive.digest();
        }
    }
}
