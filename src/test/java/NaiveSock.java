import java.math.BigInteger;
import java.util.ArrayList;
import java.util.HashMap;
import java.util.List;
import java.util.Map;
import java.util.TreeMap;
import java.util.regex.Matcher;
import java.util.regex.Pattern;

/**
 * The document again, in the slowest and plainest way: kinds under kinds, whole copies, all orders, all ways.
 * The random runs hold the program against it.
 */
final class NaiveSock {
    static class Wool {
        int thread, family, put;
        int number() { return 0; }
        int loses(int w, int y) { return w; }
        int counts(int now, Wool under) { return thread; }
    }
    static class Silk extends Wool {
        int number() { return 1; }
        int loses(int w, int y) { int wool = super.loses(w, y); return wool / 2 + wool % 2; }
        int counts(int now, Wool under) { return super.counts(now, under) * 2; }
    }
    static class Scrap extends Wool {
        int number() { return 2; }
        int loses(int w, int y) { return super.loses(w, y) + 1; }
        int counts(int now, Wool under) { return super.counts(now, under) / 2; }
    }
    static class Blue extends Silk {
        int number() { return 3; }
        int counts(int now, Wool under) { return super.counts(now, under) + (now - put >= 10 ? 3 : 0); }
    }
    static class Mothed extends Scrap {
        int number() { return 4; }
        int loses(int w, int y) { return super.loses(w, y) * (y % 3 == 0 ? 1 : 2); }
    }
    static class Lien extends Wool {
        int number() { return 5; }
    }

    static Wool make(int kind, int family, int thread, int put) {
        Wool darn = kind == 0 ? new Wool() : kind == 1 ? new Silk() : kind == 2 ? new Scrap()
            : kind == 3 ? new Blue() : kind == 4 ? new Mothed() : new Lien();
        darn.family = family;
        darn.thread = thread;
        darn.put = put;
        return darn;
    }

    static final class Cells {
        List<List<Wool>> stacks = new ArrayList<>();
        int[] wears = {1, 1, 1, 1, 1, 1, 1, 1, 1};
        int year;
        Cells() { for (int c = 0; c < 9; c++) stacks.add(new ArrayList<>()); }
        Cells copied() {
            Cells other = new Cells();
            other.wears = wears.clone();
            other.year = year;
            for (int c = 0; c < 9; c++) {
                for (Wool d : stacks.get(c)) other.stacks.get(c).add(make(d.number(), d.family, d.thread, d.put));
            }
            return other;
        }
        Wool top(int c) { List<Wool> s = stacks.get(c); return s.isEmpty() ? null : s.get(s.size() - 1); }
        void yearGoesBy(boolean worn) {
            for (int c = 0; worn && c < 9; c++) {
                Wool d = top(c);
                if (d == null) continue;
                d.thread -= d.loses(wears[c], year);
                if (d.thread <= 0) stacks.get(c).remove(d);
            }
            year++;
        }
        Cells after(int m) { Cells x = copied(); for (int i = 0; i < m; i++) x.yearGoesBy(true); return x; }
        int darns() { int n = 0; for (List<Wool> s : stacks) n += s.size(); return n; }
        int holes() { int n = 0; for (List<Wool> s : stacks) if (s.isEmpty()) n++; return n; }
        int bits() { int b = 0; for (int c = 0; c < 9; c++) if (top(c) == null) b += 1 << c; return b; }
        int counts(int c, int p) {
            Wool d = stacks.get(c).get(p);
            int own = d.counts(year, null);
            return d instanceof Lien && p > 0 ? own + counts(c, p - 1) / 2 : own;
        }
        int claim(int f, int law) {
            int n = 0;
            if (law == 2) {
                int[][] lines = {{0, 1, 2}, {3, 4, 5}, {6, 7, 8}, {0, 3, 6}, {1, 4, 7}, {2, 5, 8}, {0, 4, 8}, {2, 4, 6}};
                for (int[] line : lines) {
                    boolean own = true;
                    for (int c : line) own &= top(c) != null && top(c).family == f;
                    if (own) n++;
                }
                return n;
            }
            for (int c = 0; c < 9; c++) {
                if (law == 1 && top(c) != null && top(c).family == f) n++;
                for (int p = 0; p < stacks.get(c).size(); p++) {
                    Wool d = stacks.get(c).get(p);
                    if (d.family != f) continue;
                    if (law == 0) n += counts(c, p);
                    if (law == 3) n = Math.max(n, year - d.put + 1);
                }
            }
            return n;
        }
        int owner(int law) {
            for (int f = 0; f < 3; f++) {
                boolean most = true;
                for (int g = 0; g < 3; g++) if (g != f) most &= claim(f, law) > claim(g, law);
                if (most) return f;
            }
            return -1;
        }
        int whole() {
            Cells x = copied();
            for (int m = 0; m <= 40; m++, x.yearGoesBy(true)) if (x.holes() > 0) return m;
            return 41;
        }
        int put(int c, int kind, int family, int thread) {
            if (c < 0 || c > 8 || kind < 0 || kind > 5 || family < 0 || family > 2 || thread < 1 || thread > 30) return -2;
            if (stacks.get(c).size() == 3) return -4;
            stacks.get(c).add(make(kind, family, thread, year));
            return stacks.get(c).size();
        }
    }

    static final class All {
        Cells cells = new Cells();
        List<int[]> readings = new ArrayList<>();
        List<Cells> past = new ArrayList<>();
        All copied() {
            All x = new All();
            x.cells = cells.copied();
            x.readings = new ArrayList<>(readings);
            for (Cells c : past) x.past.add(c.copied());
            return x;
        }
        void remember() { past.add(cells.copied()); if (past.size() > 8) past.remove(0); }
    }

    private All it = new All();
    private final Map<Integer, All> images = new HashMap<>();
    private final StringBuilder text = new StringBuilder();
    private long above = 0, below = 1;
    private final int[] refused = new int[3];

    private int bad() { refused[0]++; return -2; }
    private int no() { refused[1]++; return -3; }
    private int full() { refused[2]++; return -4; }
    private static boolean out(int x, int from, int to) { return x < from || x > to; }

    private void fraction(long a, long b) {
        BigInteger both = BigInteger.valueOf(a).gcd(BigInteger.valueOf(b));
        above = b == 0 ? 0 : a / both.longValue();
        below = b == 0 ? 1 : b / both.longValue();
    }

    int sock(int year) {
        if (out(year, 0, 99)) return bad();
        int had = it.cells.darns();
        it = new All();
        it.cells.year = year;
        return had;
    }
    int wear(int cell, int w) {
        if (out(cell, 0, 8) || out(w, 0, 5)) return bad();
        int had = it.cells.wears[cell];
        it.cells.wears[cell] = w;
        return had;
    }
    int darn(int cell, int kind, int family, int thread) {
        Cells before = it.cells.copied();
        int answer = it.cells.put(cell, kind, family, thread);
        if (answer == -2) return bad();
        if (answer == -4) return full();
        it.past.add(before);
        if (it.past.size() > 8) it.past.remove(0);
        return answer;
    }
    int unpick(int cell) {
        if (out(cell, 0, 8)) return bad();
        Wool top = it.cells.top(cell);
        if (top == null) return no();
        it.remember();
        it.cells.stacks.get(cell).remove(top);
        return top.thread;
    }
    int years(int n) {
        if (out(n, 1, 20)) return bad();
        for (int i = 0; i < n; i++) { it.remember(); it.cells.yearGoesBy(true); }
        return it.cells.holes();
    }
    int undo() {
        if (it.past.isEmpty()) return no();
        int[] wears = it.cells.wears;
        it.cells = it.past.remove(it.past.size() - 1);
        it.cells.wears = wears;
        return it.cells.darns();
    }
    int type(int c) {
        if (out(c, 0, 127)) return bad();
        if (text.length() == 150) return full();
        text.append((char) c);
        return text.length();
    }
    int clear() { int n = text.length(); text.setLength(0); return n; }

    int read() {
        List<String> tokens = new ArrayList<>();
        List<Integer> places = new ArrayList<>();
        Matcher m = Pattern.compile("[a-z]+|[0-9]+|[^ ]", Pattern.DOTALL).matcher(text);
        while (m.find()) { tokens.add(m.group()); places.add(m.start()); }
        List<int[]> items = new ArrayList<>();
        int t = 0;
        do {
            String word = t < tokens.size() ? tokens.get(t) : null;
            if (word == null) return -10 - text.length();
            boolean fits = items.isEmpty() ? word.equals("sock") : word.equals("wear") || word.equals("darn");
            if (!fits) return -10 - places.get(t);
            int n = word.equals("sock") ? 1 : word.equals("wear") ? 2 : 4;
            int[] item = new int[n];
            t++;
            for (int j = 0; j <= n; j++, t++) {
                if (t >= tokens.size()) return -10 - text.length();
                if (!tokens.get(t).matches(j < n ? "[0-9]{1,2}" : ";")) return -10 - places.get(t);
                if (j < n) item[j] = Integer.parseInt(tokens.get(t));
            }
            items.add(item);
        } while (t < tokens.size());
        NaiveSock told = new NaiveSock();
        for (int k = 0; k < items.size(); k++) {
            int[] i = items.get(k);
            int answer = i.length == 1 ? told.sock(i[0]) : i.length == 2 ? told.wear(i[0], i[1]) : told.darn(i[0], i[1], i[2], i[3]);
            if (answer < 0) return -1000 - k;
        }
        it = told.it;
        it.past.clear();
        return items.size();
    }

    int of(int cell, int place, int what) {
        if (out(cell, 0, 8) || out(place, 0, 2) || out(what, 0, 5)) return bad();
        if (place >= it.cells.stacks.get(cell).size()) return -1;
        Wool d = it.cells.stacks.get(cell).get(place);
        int[] all = {d.number(), d.family, d.thread, d.put, it.cells.counts(cell, place), d.loses(it.cells.wears[cell], it.cells.year)};
        return all[what];
    }
    int cell(int cell, int what) {
        if (out(cell, 0, 8) || out(what, 0, 1)) return bad();
        return what == 0 ? it.cells.wears[cell] : it.cells.stacks.get(cell).size();
    }
    int claims(int family, int law) {
        if (out(family, 0, 2) || out(law, 0, 3)) return bad();
        return it.cells.claim(family, law);
    }
    int owner(int law, int m) {
        if (out(law, 0, 3) || out(m, 0, 40)) return bad();
        return it.cells.after(m).owner(law);
    }
    int laws(int family) {
        if (out(family, 0, 2)) return bad();
        int bits = 0;
        for (int law = 3; law >= 0; law--) bits = 2 * bits + (it.cells.owner(law) == family ? 1 : 0);
        return bits;
    }
    int share(int family) {
        if (out(family, 0, 2)) return bad();
        fraction(it.cells.claim(family, 0), it.cells.claim(0, 0) + it.cells.claim(1, 0) + it.cells.claim(2, 0));
        return 1;
    }
    int twos(int law) {
        if (out(law, 0, 3)) return bad();
        for (int m = 0; m <= 40; m++) {
            Cells then = it.cells.after(m);
            if (then.owner(law) == -1 && (then.claim(0, law) > 0 || then.claim(1, law) > 0 || then.claim(2, law) > 0)) return m;
        }
        return -1;
    }
    int whole() { return it.cells.whole(); }
    int holes(int m) { return out(m, 0, 40) ? bad() : it.cells.after(m).bits(); }

    int best(int n, int kind, int what) {
        if (out(n, 1, 30) || out(kind, 0, 5) || out(what, 0, 1)) return bad();
        int[] found = {-1, -1};
        for (int c = 0; c < 9; c++) {
            Cells x = it.cells.copied();
            if (x.put(c, kind, 0, n) < 0) continue;
            int long_ = x.whole();
            if (long_ > found[1]) found = new int[] {c, long_};
        }
        return found[what];
    }
    int split(int n, int kind, int what) {
        if (out(n, 2, 30) || out(kind, 0, 5) || out(what, 0, 2)) return bad();
        int[] found = {-1, -1, -1};
        for (int a = 0; a < 9; a++) {
            for (int b = a + 1; b < 9; b++) {
                for (int i = 1; i < n; i++) {
                    Cells x = it.cells.copied();
                    if (x.put(a, kind, 0, i) < 0 || x.put(b, kind, 0, n - i) < 0) continue;
                    int long_ = x.whole();
                    if (long_ > found[2]) found = new int[] {10 * a + b, i, long_};
                }
            }
        }
        return found[what];
    }
    int reading(int cell, int m, int v) {
        if (out(cell, 0, 8) || out(m, 0, 20) || out(v, 0, 30)) return bad();
        if (it.readings.size() == 6) return full();
        it.readings.add(new int[] {cell, m, v});
        return it.readings.size();
    }
    int forget() { int n = it.readings.size(); it.readings.clear(); return n; }

    /** What the uppermost darn of a cell, were it of that kind, would have left behind m years. */
    private int shows(int cell, int kind, int m) {
        Cells x = it.cells.copied();
        Wool top = x.top(cell);
        Wool other = make(kind, top.family, top.thread, top.put);
        x.stacks.get(cell).set(x.stacks.get(cell).size() - 1, other);
        for (int i = 0; i < m; i++) x.yearGoesBy(true);
        return x.stacks.get(cell).contains(other) ? other.thread : 0;
    }
    private int possible(int cell) {
        int bits = 0;
        for (int k = 0; k < 6 && it.cells.top(cell) != null; k++) {
            boolean so = true;
            for (int[] r : it.readings) so &= r[0] != cell || shows(cell, k, r[1]) == r[2];
            if (so) bits += 1 << k;
        }
        return bits;
    }
    int may(int cell) { return out(cell, 0, 8) ? bad() : possible(cell); }
    int look(int cell) {
        if (out(cell, 0, 8)) return bad();
        int bits = possible(cell), when = -1, least = 99;
        for (int m = 0; m <= 20 && bits != 0; m++) {
            Map<Integer, Integer> groups = new TreeMap<>();
            for (int k = 0; k < 6; k++) if ((bits >> k) % 2 == 1) groups.merge(shows(cell, k, m), 1, Integer::sum);
            int most = 0;
            for (int size : groups.values()) most = Math.max(most, size);
            if (most < least) { least = most; when = m; }
        }
        return when;
    }

    int orders(int cells, int i) {
        if (out(cells, 0, 511) || i < -1) { bad(); return -10; }
        List<int[]> darns = new ArrayList<>();
        for (int c = 0; c < 9; c++) {
            for (int p = 0; (cells >> c) % 2 == 1 && p < it.cells.stacks.get(c).size(); p++) {
                darns.add(new int[] {c, p, it.cells.stacks.get(c).get(p).put});
            }
        }
        if (darns.size() > 6) { no(); return -20; }
        if (i >= darns.size()) return -5;
        List<List<int[]>> rows = new ArrayList<>();
        permute(darns, new ArrayList<>(), rows);
        if (i == -1) return rows.size();
        return 10 * rows.get(0).get(i)[0] + rows.get(0).get(i)[1];
    }
    /** All orders, those by lesser cells and places first; only those that can be are kept. */
    private static void permute(List<int[]> rest, List<int[]> row, List<List<int[]>> rows) {
        if (rest.isEmpty()) {
            for (int a = 0; a < row.size(); a++) {
                for (int b = a + 1; b < row.size(); b++) {
                    int[] x = row.get(a), y = row.get(b);
                    if (x[0] == y[0] && x[1] > y[1] || x[2] > y[2]) return;
                }
            }
            rows.add(new ArrayList<>(row));
            return;
        }
        for (int k = 0; k < rest.size(); k++) {
            List<int[]> fewer = new ArrayList<>(rest);
            row.add(fewer.remove(k));
            permute(fewer, row, rows);
            row.remove(row.size() - 1);
        }
    }

    int odds(int cell, int m, int c) {
        if (out(cell, 0, 8) || out(m, 0, 8) || out(c, 0, 10)) return bad();
        long up = 0, down = 1;
        for (int i = 0; i < m; i++) down *= 10;
        for (int way = 0; way < 1 << m; way++) {
            Cells x = it.cells.copied();
            long weight = 1;
            for (int i = 0; i < m; i++) {
                boolean worn = (way >> i) % 2 == 1;
                weight *= worn ? c : 10 - c;
                x.yearGoesBy(worn);
            }
            if (x.top(cell) == null) up += weight;
        }
        fraction(up, down);
        return 1;
    }
    int drawn(int seed, int m) {
        if (out(seed, 0, 999999) || out(m, 0, 20)) return bad();
        Cells x = it.cells.copied();
        long r = seed;
        for (int i = 0; i < m; i++) {
            for (int c = 0; c < 9; c++) {
                r = (r * 1103515245L + 12345L) & 0x7fffffffL;
                x.wears[c] = (int) ((r >> 16) % 6);
            }
            x.yearGoesBy(true);
        }
        return x.holes();
    }
    long part(int what) { return what == 0 ? above : what == 1 ? below : bad(); }
    int image(int i) {
        if (out(i, 0, 1)) return bad();
        images.put(i, it.copied());
        return 1;
    }
    int from(int i) {
        if (out(i, 0, 1)) return bad();
        if (!images.containsKey(i)) return no();
        it = images.get(i).copied();
        return 1;
    }
    int status(int what) {
        if (out(what, 0, 2)) { bad(); return -1; }
        return refused[what];
    }
    int count(int what) {
        if (out(what, 0, 5)) return bad();
        int[] all = {it.cells.darns(), it.cells.holes(), it.cells.year, it.readings.size(), it.past.size(), text.length()};
        return all[what];
    }
    long digest() {
        List<Long> all = new ArrayList<>();
        for (int i = 0; i < 6; i++) all.add((long) count(i));
        for (int c = 0; c < 9; c++) {
            all.add((long) it.cells.wears[c]);
            all.add((long) it.cells.stacks.get(c).size());
            for (Wool d : it.cells.stacks.get(c)) {
                all.add((long) d.number());
                all.add((long) d.family);
                all.add((long) d.thread);
                all.add((long) d.put);
            }
        }
        for (int[] r : it.readings) for (int v : r) all.add((long) v);
        all.add(above);
        all.add(below);
        long h = 1061;
        for (long v : all) h = 31 * h + v;
        return h;
    }
}
