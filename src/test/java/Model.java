import java.util.ArrayList;
import java.util.Arrays;
import java.util.List;
import java.util.Map;
import java.util.TreeMap;
import java.util.TreeSet;
import java.util.function.IntFunction;
import java.util.function.IntPredicate;
import java.util.function.ToLongFunction;

/**
 * The document once more, as slowly and as literally as it can be said, to be held against ThinLine. It shares no
 * code with it and uses the library where it likes.
 */
final class Model {
    static final class Row {
        int glass;
        int hour;
        int known;
        Integer[] raw = new Integer[300];
    }

    /** All but the texts. */
    static final class State {
        int now;
        List<Row> rows = new ArrayList<>();
        List<int[]> slips = new ArrayList<>();
        List<int[]> lines = new ArrayList<>();
        List<int[]> candidates = new ArrayList<>();
        List<int[]> houses = new ArrayList<>();
        int[] told = new int[4];
        List<Integer> tape = new ArrayList<>();

        State copy() {
            State s = new State();
            s.now = now;
            for (Row r : rows) {
                Row c = new Row();
                c.glass = r.glass;
                c.hour = r.hour;
                c.known = r.known;
                c.raw = r.raw.clone();
                s.rows.add(c);
            }
            for (int[] a : slips) s.slips.add(a.clone());
            for (int[] a : lines) s.lines.add(a.clone());
            for (int[] a : candidates) s.candidates.add(a.clone());
            for (int[] a : houses) s.houses.add(a.clone());
            s.told = told.clone();
            s.tape.addAll(tape);
            return s;
        }
    }

    State s = new State();
    State[] images = new State[4];
    List<List<Grammar.Clause>> laws = new ArrayList<>();
    List<List<Grammar.Clause>> curves = new ArrayList<>();
    List<List<Grammar.Clause>> ways = new ArrayList<>();

    static boolean in(long n, long a, long b) {
        return a <= n && n <= b;
    }

    // ---- I ----

    boolean clock(int week) {
        if (in(week, 0, 399) && week >= s.now) {
            s.now = week;
            return true;
        }
        return false;
    }

    int row(int glass, int hour) {
        if (s.rows.size() == 24 || !in(glass, 0, 3) || !in(hour, 0, 999)) return -1;
        Row r = new Row();
        r.glass = glass;
        r.hour = hour;
        r.known = s.now;
        s.rows.add(r);
        return s.rows.size() - 1;
    }

    boolean isRow(int row) {
        return in(row, 0, s.rows.size() - 1);
    }

    boolean isCurve(int curve) {
        return in(curve, 0, curves.size() - 1);
    }

    int raw(int row, int colour, int n) {
        if (!isRow(row) || !in(colour, 0, 299) || !(n == -1000000 || in(n, -100000, 100000))) return -2000000;
        Integer[] raw = s.rows.get(row).raw;
        int before = raw[colour] == null ? -1000000 : raw[colour];
        raw[colour] = n == -1000000 ? null : Integer.valueOf(n);
        return before;
    }

    Integer readOf(Row r, int colour, int withoutSlip) {
        if (r.raw[colour] == null) return null;
        int n = r.raw[colour];
        for (int i = 0; i < s.slips.size(); i++) {
            int[] slip = s.slips.get(i);
            if (i != withoutSlip && slip[0] == r.glass && slip[1] <= colour && colour <= slip[2]) n -= slip[3];
        }
        return n;
    }

    int read(int row, int colour) {
        if (!isRow(row) || !in(colour, 0, 299)) return -2000000;
        Integer n = readOf(s.rows.get(row), colour, -1);
        return n == null ? -1000000 : n;
    }

    int slip(int glass, int from, int to, int n) {
        if (s.slips.size() == 40 || !in(glass, 0, 3) || !in(from, 0, 299) || !in(to, from, 299) || !in(n, -9999, 9999)) return -1;
        s.slips.add(new int[] {glass, from, to, n});
        return s.slips.size() - 1;
    }

    int anew(int slip, int n) {
        if (!in(slip, 0, s.slips.size() - 1) || !in(n, -9999, 9999)) return -2000000;
        int before = s.slips.get(slip)[3];
        s.slips.get(slip)[3] = n;
        return before;
    }

    int line(int stuff, int colour, int depth) {
        if (s.lines.size() == 60 || !in(stuff, 0, 11) || !in(colour, 0, 299) || !in(depth, 1, 1000)) return -1;
        for (int[] l : s.lines) if (l[0] == stuff && l[1] == colour) return -1;
        s.lines.add(new int[] {stuff, colour, depth});
        return s.lines.size();
    }

    int feed(int a, int b, int c, int d, int e) {
        if (s.tape.size() + 20 > 400) return -1;
        for (int n : new int[] {a, b, c, d, e}) {
            s.tape.add(n >>> 24);
            s.tape.add(n >>> 16 & 255);
            s.tape.add(n >>> 8 & 255);
            s.tape.add(n & 255);
        }
        return s.tape.size();
    }

    int end(int n) {
        if (!in(n, 0, s.tape.size())) return -1;
        while (s.tape.size() > n) s.tape.remove(s.tape.size() - 1);
        return n;
    }

    int text(int sort) {
        if (!in(sort, 0, 2)) return -1;
        List<List<Grammar.Clause>> shelf = sort == 0 ? laws : sort == 1 ? curves : ways;
        if (shelf.size() == (sort == 0 ? 6 : 8)) return -1;
        StringBuilder text = new StringBuilder();
        for (int b : s.tape) text.append((char) b);
        s.tape.clear();
        try {
            shelf.add(new Grammar(text.toString(), sort).text());
            return shelf.size() - 1;
        } catch (Grammar.Fault f) {
            return -2 - (1 + 8 * f.place + f.code);
        }
    }

    static ToLongFunction<String> words(int colour, Row r, int row) {
        return w -> w.equals("colour") ? colour : w.equals("glass") ? r.glass : w.equals("hour") ? r.hour : row;
    }

    /** One number MADE; x[0] goes on. */
    int madeOne(List<Grammar.Clause> law, int row, int colour, long[] x, boolean eats) {
        ToLongFunction<String> words = words(colour, s.rows.get(row), row);
        long n = 0;
        for (Grammar.Clause c : law) {
            if (c.word.equals("shine") && (c.test == null || c.test.holds(words))) {
                n = c.sum.value(words);
                break;
            }
        }
        n = Math.min(50000, Math.max(-50000, n));
        long noise = 0;
        for (Grammar.Clause c : law) {
            if (c.word.equals("eats") && eats) {
                for (int[] l : s.lines) {
                    if (l[0] == c.a && l[1] == colour) n -= Math.floorDiv((long) c.b * l[2], 1000L);
                }
            }
            if (c.word.equals("ripple")) {
                int t = colour % c.a;
                n += Math.floorDiv(2L * c.b * Math.min(t, c.a - t), (long) c.a) - Math.floorDiv(c.b, 2);
            }
            if (c.word.equals("noise")) noise = c.a;
        }
        x[0] = Math.floorMod(x[0] * 1103515245L + 12345L, 2147483648L);
        n += x[0] / 65536 % (2 * noise + 1) - noise;
        return (int) Math.min(100000, Math.max(-100000, n));
    }

    int make(int law, int row, int seed, int from, int to) {
        if (!in(law, 0, laws.size() - 1) || !isRow(row) || seed < 0 || !in(from, 0, 299) || !in(to, from, 299)) return -1;
        long[] x = {seed};
        for (int c = from; c <= to; c++) s.rows.get(row).raw[c] = madeOne(laws.get(law), row, c, x, true);
        return to - from + 1;
    }

    // ---- II ----

    /** A CURVE laid for numbers that are READ. */
    static final class Laid {
        IntFunction<Integer> read;
        TreeSet<Integer> used = new TreeSet<>();
        TreeMap<Integer, Long> knots = new TreeMap<>();
        List<Integer> gap = new ArrayList<>();

        Laid(IntFunction<Integer> read, IntPredicate skip, int bends, int wide, int from, int to) {
            this.read = read;
            for (int c = 0; c < 300; c++) {
                if (read.apply(c) == null) continue;
                if (from <= c && c <= to) gap.add(c);
                else if (!skip.test(c)) used.add(c);
            }
            for (int k = 0; k <= bends + 1; k++) {
                int at = 299 * k / (bends + 1);
                List<Integer> near = new ArrayList<>(used.subSet(at - wide, true, at + wide, true));
                if (!near.isEmpty()) knots.put(at, mean(near, c -> read.apply(c)));
            }
        }

        static long mean(List<Integer> of, IntFunction<? extends Number> f) {
            long sum = 0;
            for (int c : of) sum += f.apply(c).longValue();
            return Math.floorDiv(sum, (long) of.size());
        }

        boolean is() {
            return !knots.isEmpty();
        }

        boolean hasDeep() {
            return is() && !gap.isEmpty();
        }

        long height(int c) {
            Map.Entry<Integer, Long> a = knots.floorEntry(c);
            Map.Entry<Integer, Long> b = knots.higherEntry(c);
            if (a == null) return b.getValue();
            if (b == null) return a.getValue();
            long rise = b.getValue() - a.getValue();
            return a.getValue() + Math.floorDiv(rise * (c - a.getKey()), (long) (b.getKey() - a.getKey()));
        }

        long left(int c) {
            return read.apply(c) - height(c);
        }

        Long deep() {
            return hasDeep() ? mean(gap, c -> -left(c)) : null;
        }

        long noise() {
            long sum = 0;
            for (int c : used) sum += Math.abs(left(c));
            return Math.max(1, -Math.floorDiv(-sum, (long) used.size()));
        }

        Long score() {
            return hasDeep() ? Math.floorDiv(1000 * deep(), noise()) : null;
        }
    }

    static int option(List<Grammar.Clause> text, String word, boolean second, int otherwise) {
        for (Grammar.Clause c : text) if (c.word.equals(word)) return second ? c.b : c.a;
        return otherwise;
    }

    int bends(int curve) {
        return option(curves.get(curve), "bends", false, 12);
    }

    int wide(int curve) {
        return option(curves.get(curve), "wide", false, 3);
    }

    int gapFrom(int curve) {
        return option(curves.get(curve), "gap", false, 140);
    }

    int gapTo(int curve) {
        return option(curves.get(curve), "gap", true, 159);
    }

    IntPredicate skip(int curve, int row) {
        return colour -> {
            for (Grammar.Clause c : curves.get(curve)) {
                if (c.word.equals("skip") && c.test.holds(words(colour, s.rows.get(row), row))) return true;
            }
            return false;
        };
    }

    IntFunction<Integer> reading(int row) {
        return c -> readOf(s.rows.get(row), c, -1);
    }

    Laid laid(int curve, int row) {
        return laid(curve, row, reading(row), gapFrom(curve));
    }

    Laid laid(int curve, int row, IntFunction<Integer> read, int from) {
        int to = from + gapTo(curve) - gapFrom(curve);
        Integer[] fixed = new Integer[300];
        for (int c = 0; c < 300; c++) fixed[c] = read.apply(c);
        return new Laid(c -> fixed[c], skip(curve, row), bends(curve), wide(curve), from, to);
    }

    boolean wrong(int curve, int row) {
        return !isCurve(curve) || !isRow(row);
    }

    int curve(int curve, int row, int colour, int what) {
        if (wrong(curve, row) || !in(colour, 0, 299) || !in(what, 0, 2)) return -2000000;
        Laid l = laid(curve, row);
        if (what == 0) return l.used.contains(colour) ? 1 : 0;
        if (!l.is()) return -1000000;
        if (what == 1) return (int) l.height(colour);
        return l.read.apply(colour) == null ? -1000000 : (int) l.left(colour);
    }

    long deep(int curve, int row, int what) {
        if (wrong(curve, row) || !in(what, 0, 4)) return -2000000000;
        Laid l = laid(curve, row);
        if (what == 0) return l.hasDeep() ? l.deep() : -1000000;
        if (what == 1) return l.is() ? l.noise() : -1;
        if (what == 2) return l.hasDeep() ? l.score() : -1000000000;
        return what == 3 ? l.knots.size() : l.used.size();
    }

    // ---- III ----

    long moved(int curve, int row, int from) {
        if (wrong(curve, row)) return -2000000000;
        int length = gapTo(curve) - gapFrom(curve) + 1;
        if (!in(from, 0, 299) || !in(from + length - 1, 0, 299)) return -2000000000;
        Laid l = laid(curve, row, reading(row), from);
        return l.hasDeep() ? l.score() : -1000000000;
    }

    /** SCORE by where a gap ELSEWHERE begins. */
    TreeMap<Integer, Long> places(int curve, int row) {
        TreeMap<Integer, Long> places = new TreeMap<>();
        int a = gapFrom(curve);
        int b = gapTo(curve);
        for (int from = 0; from + (b - a) <= 299; from++) {
            boolean common = false;
            for (int c = from; c <= from + (b - a); c++) common |= a <= c && c <= b;
            if (common) continue;
            Laid l = laid(curve, row, reading(row), from);
            if (l.hasDeep()) places.put(from, l.score());
        }
        return places;
    }

    int elsewhere(int curve, int row, int what) {
        if (wrong(curve, row) || !in(what, 0, 1)) return -1;
        Laid own = laid(curve, row);
        if (!own.hasDeep()) return -2;
        TreeMap<Integer, Long> places = places(curve, row);
        if (what == 0) return places.size();
        long score = own.score();
        return (int) places.values().stream().filter(x -> x >= score).count();
    }

    int drawn(int law, int curve, int row, int seed, int n) {
        if (wrong(curve, row) || !in(law, 0, laws.size() - 1) || seed < 0 || !in(n, 1, 50)) return -1;
        Laid own = laid(curve, row);
        if (!own.hasDeep()) return -2;
        long score = own.score();
        long[] x = {seed};
        int many = 0;
        for (int i = 0; i < n; i++) {
            Integer[] drawn = new Integer[300];
            for (int c = 0; c < 300; c++) drawn[c] = madeOne(laws.get(law), row, c, x, false);
            Laid l = laid(curve, row, c -> drawn[c], gapFrom(curve));
            if (l.hasDeep() && l.score() >= score) many++;
        }
        return many;
    }

    Laid bentTo(int curve, int row, int bends) {
        return new Laid(reading(row), skip(curve, row), bends, wide(curve), gapFrom(curve), gapTo(curve));
    }

    long bent(int curve, int row, int bends) {
        if (wrong(curve, row) || !in(bends, 0, 40)) return -2000000000;
        Laid l = bentTo(curve, row, bends);
        return l.hasDeep() ? l.score() : -1000000000;
    }

    long best(int curve, int row, int price, int what) {
        if (wrong(curve, row) || !in(price, 0, 99999) || !in(what, 0, 1)) return -1;
        TreeMap<Long, Integer> byCost = new TreeMap<>();
        for (int bends = 0; bends <= 40; bends++) {
            Laid l = bentTo(curve, row, bends);
            if (!l.is()) continue;
            long squares = 0;
            for (int c : l.used) squares += l.left(c) * l.left(c);
            byCost.putIfAbsent(Math.floorDiv(squares, 1000L) + (long) price * bends, bends);
        }
        if (byCost.isEmpty()) return -2;
        return what == 0 ? byCost.firstEntry().getValue() : byCost.firstKey();
    }

    int taken(int curve, int row, int d, int w) {
        if (wrong(curve, row) || !in(d, 1, 9999) || !in(w, 1, 99)) return -2000000;
        Laid own = laid(curve, row);
        if (!own.hasDeep()) return -1000000;
        int middle = Math.floorDiv(gapFrom(curve) + gapTo(curve), 2);
        IntFunction<Integer> put = c -> Math.abs(c - middle) < w ? Math.floorDiv(d * (w - Math.abs(c - middle)), w) : 0;
        Laid l = laid(curve, row, c -> own.read.apply(c) == null ? null : Integer.valueOf(own.read.apply(c) - put.apply(c)), gapFrom(curve));
        return (int) (Laid.mean(own.gap, put) - (l.deep() - own.deep()));
    }

    boolean notBelow(int curve, int row, int bar) {
        Laid l = laid(curve, row);
        return l.hasDeep() && l.score() >= bar;
    }

    int apart(int one, int other, int bar) {
        if (!isCurve(one) || !isCurve(other) || one == other || !in(bar, -999999, 999999)) return -1;
        int many = 0;
        for (int r = 0; r < s.rows.size(); r++) if (notBelow(one, r, bar) ^ notBelow(other, r, bar)) many++;
        return many;
    }

    // ---- IV ----

    Long amount(Laid l, int stuff) {
        if (!l.hasDeep()) return null;
        long depths = 0;
        for (int[] line : s.lines) if (line[0] == stuff && l.gap.contains(line[1])) depths += line[2];
        if (depths == 0) return null;
        return l.deep() < 1 ? 0 : Math.floorDiv(l.deep() * l.gap.size() * 1000, depths);
    }

    List<int[]> elseLines(int curve, Laid l, int stuff) {
        List<int[]> lines = new ArrayList<>();
        for (int[] line : s.lines) {
            boolean inGap = gapFrom(curve) <= line[1] && line[1] <= gapTo(curve);
            if (line[0] == stuff && !inGap && l.read.apply(line[1]) != null) lines.add(line);
        }
        return lines;
    }

    int there(int curve, Laid l, int stuff) {
        Long amount = amount(l, stuff);
        int many = 0;
        for (int[] line : elseLines(curve, l, stuff)) {
            if (amount != null && 2 * -l.left(line[1]) >= Math.floorDiv(amount * line[2], 1000L)) many++;
        }
        return many;
    }

    long stuff(int curve, int row, int stuff, int what) {
        if (wrong(curve, row) || !in(stuff, 0, 11) || !in(what, 0, 3)) return -2;
        Laid l = laid(curve, row);
        if (what == 0) return amount(l, stuff) == null ? -1 : amount(l, stuff);
        if (what == 1) return elseLines(curve, l, stuff).size();
        if (what == 2) return there(curve, l, stuff);
        if (!l.is()) return -1;
        long least = Long.MAX_VALUE;
        for (int[] line : elseLines(curve, l, stuff)) {
            least = Math.min(least, Math.max(0, Math.floorDiv((l.noise() - l.left(line[1])) * 1000, (long) line[2])));
        }
        return least == Long.MAX_VALUE ? -1 : least;
    }

    int likeliest(int curve, int row) {
        if (wrong(curve, row)) return -1;
        Laid l = laid(curve, row);
        int best = -2;
        long a = 0;
        long b = 1;
        for (int stuff = 0; stuff < 12; stuff++) {
            if (amount(l, stuff) == null) continue;
            long there = there(curve, l, stuff);
            long of = elseLines(curve, l, stuff).size();
            if (of == 0) of = 1;
            if (best == -2 || there * b > a * of) {
                best = stuff;
                a = there;
                b = of;
            }
        }
        return best;
    }

    // ---- V ----

    int together(int curve, int glasses, int week, int part) {
        if (!isCurve(curve) || !in(glasses, 1, 15) || !in(week, 0, 399) || !in(part, 0, 2)) return -2000000000;
        long sum = 0;
        int many = 0;
        for (int r = 0; r < s.rows.size(); r++) {
            Row row = s.rows.get(r);
            Laid l = laid(curve, r);
            if (row.known > week || (glasses & 1 << row.glass) == 0 || !l.hasDeep()) continue;
            sum += l.deep();
            many++;
        }
        if (part == 2) return many;
        if (many == 0) return 0;
        int g = java.math.BigInteger.valueOf(sum).gcd(java.math.BigInteger.valueOf(many)).intValue();
        return (int) (part == 0 ? sum / g : many / g);
    }

    int hour(int curve, int week, int what) {
        if (!isCurve(curve) || !in(week, 0, 399) || !in(what, 0, 1)) return -1;
        int pairs = 0;
        long sum = 0;
        for (int a = 0; a < s.rows.size(); a++) {
            for (int b = 0; b < a; b++) {
                Row one = s.rows.get(a);
                Row other = s.rows.get(b);
                if (one.glass == other.glass || one.hour != other.hour || one.known > week || other.known > week) continue;
                Laid la = laid(curve, a);
                Laid lb = laid(curve, b);
                if (!la.hasDeep() || !lb.hasDeep()) continue;
                pairs++;
                sum += Math.abs(la.deep() - lb.deep());
            }
        }
        return what == 0 ? pairs : (int) sum;
    }

    int saidIn(int curve, int week, int bar, boolean[] notBelow) {
        TreeSet<Integer> glasses = new TreeSet<>();
        for (int r = 0; r < s.rows.size(); r++) {
            if (s.rows.get(r).known <= week && notBelow[r]) glasses.add(s.rows.get(r).glass);
        }
        return glasses.size();
    }

    boolean[] allNotBelow(int curve, int bar) {
        boolean[] is = new boolean[s.rows.size()];
        for (int r = 0; r < is.length; r++) is[r] = notBelow(curve, r, bar);
        return is;
    }

    int said(int curve, int week, int bar) {
        if (!isCurve(curve) || !in(week, 0, 399) || !in(bar, -999999, 999999)) return -1;
        return saidIn(curve, week, bar, allNotBelow(curve, bar));
    }

    int weeks(int curve, int from, int to, int bar, int glasses, int what) {
        if (!isCurve(curve) || !in(from, 0, 399) || !in(to, from, 399) || (long) to - from + 1 > 100) return -1;
        if (!in(bar, -999999, 999999) || !in(glasses, 1, 4) || !in(what, 0, 1)) return -1;
        boolean[] is = allNotBelow(curve, bar);
        int[] said = new int[to - from + 1];
        for (int w = from; w <= to; w++) said[w - from] = saidIn(curve, w, bar, is);
        int turns = 0;
        for (int i = 1; i < said.length; i++) if (said[i] != said[i - 1]) turns++;
        if (what == 1) return turns;
        for (int i = 0; i < said.length; i++) if (said[i] >= glasses) return from + i;
        return -2;
    }

    // ---- VI ----

    long power(Laid l, int p) {
        TreeMap<Integer, List<Long>> byRest = new TreeMap<>();
        for (int c : l.used) byRest.computeIfAbsent(c % p, k -> new ArrayList<>()).add(l.left(c));
        long power = 0;
        for (List<Long> lefts : byRest.values()) {
            long sum = 0;
            for (long x : lefts) sum += x;
            power += Math.floorDiv(sum * sum, (long) lefts.size());
        }
        return power;
    }

    int found(Laid l) {
        int found = 2;
        for (int p = 2; p <= 99; p++) if (power(l, p) > power(l, found)) found = p;
        return found;
    }

    long ripple(int curve, int row, int what) {
        if (wrong(curve, row) || !in(what, 0, 1)) return -2;
        Laid l = laid(curve, row);
        if (!l.is()) return -1;
        int p = found(l);
        return what == 0 ? p : power(l, p);
    }

    int smooth(int curve, int row) {
        if (wrong(curve, row)) return -2000000;
        Laid l = laid(curve, row);
        if (!l.hasDeep()) return -1000000;
        int p = found(l);
        return (int) Laid.mean(l.gap, c -> {
            List<Integer> same = new ArrayList<>();
            for (int u : l.used) if (u % p == c % p) same.add(u);
            return -(l.left(c) - (same.isEmpty() ? 0 : Laid.mean(same, l::left)));
        });
    }

    Laid without(int curve, int row, int slip, boolean asked) {
        return laid(curve, row, c -> readOf(s.rows.get(row), c, slip), gapFrom(curve));
    }

    int without(int curve, int row, int slip) {
        if (wrong(curve, row) || !in(slip, 0, s.slips.size() - 1)) return -2000000;
        Laid l = without(curve, row, slip, true);
        return l.hasDeep() ? (int) (long) l.deep() : -1000000;
    }

    int weightiest(int curve, int row) {
        if (wrong(curve, row)) return -1;
        Laid own = laid(curve, row);
        if (!own.hasDeep()) return -2;
        int best = -2;
        long most = -1;
        for (int i = 0; i < s.slips.size(); i++) {
            Laid l = without(curve, row, i, true);
            if (l.hasDeep() && Math.abs(l.deep() - own.deep()) > most) {
                best = i;
                most = Math.abs(l.deep() - own.deep());
            }
        }
        return best;
    }

    long deepest(int curve, int row, int what) {
        if (wrong(curve, row) || !in(what, 0, 1)) return -2100000000;
        Map.Entry<Integer, Long> best = null;
        for (Map.Entry<Integer, Long> e : places(curve, row).entrySet()) {
            if (best == null || e.getValue() > best.getValue()) best = e;
        }
        return best == null ? -2000000000 : what == 0 ? best.getKey() : best.getValue();
    }

    int house(int curve, int bar, int glasses) {
        if (s.houses.size() == 8 || !isCurve(curve) || !in(bar, -999999, 999999) || !in(glasses, 1, 15)) return -1;
        s.houses.add(new int[] {curve, bar, glasses});
        return s.houses.size() - 1;
    }

    int saysOf(int house, int week) {
        int[] h = s.houses.get(house);
        for (int r = 0; r < s.rows.size(); r++) {
            Row row = s.rows.get(r);
            if (row.known <= week && (h[2] & 1 << row.glass) != 0 && notBelow(h[0], r, h[1])) return 1;
        }
        return 0;
    }

    int says(int house, int week) {
        return in(house, 0, s.houses.size() - 1) && in(week, 0, 399) ? saysOf(house, week) : -1;
    }

    List<Integer> saying(int week) {
        List<Integer> saying = new ArrayList<>();
        for (int h = 0; h < s.houses.size(); h++) if (saysOf(h, week) == 1) saying.add(h);
        return saying;
    }

    int agreed(int week) {
        if (!in(week, 0, 399)) return -1;
        // nothing is otherwise than a WEEK ahead but where a ROW comes to be KNOWN
        TreeSet<Integer> weeks = new TreeSet<>();
        for (Row r : s.rows) weeks.add(r.known);
        for (int w : weeks) if (w <= week && 2 * saying(w).size() > s.houses.size()) return w;
        return -2;
    }

    int alone(int week) {
        if (!in(week, 0, 399)) return -1;
        List<Integer> saying = saying(week);
        return saying.size() == 1 ? saying.get(0) : -2;
    }

    int odd(int curve, int glass) {
        if (!isCurve(curve) || !in(glass, 0, 3)) return -1;
        TreeMap<Integer, Long> deeps = new TreeMap<>();
        for (int r = 0; r < s.rows.size(); r++) {
            if (s.rows.get(r).glass == glass && laid(curve, r).hasDeep()) deeps.put(r, laid(curve, r).deep());
        }
        if (deeps.size() < 3) return -2;
        long[] sorted = deeps.values().stream().mapToLong(x -> x).sorted().toArray();
        long middle = sorted.length % 2 == 1 ? sorted[sorted.length / 2] : sorted[sorted.length / 2 - 1];
        int odd = -1;
        for (int r : deeps.keySet()) {
            if (odd == -1 || Math.abs(deeps.get(r) - middle) > Math.abs(deeps.get(odd) - middle)) odd = r;
        }
        return odd;
    }

    int candidate(int glass, int hours) {
        if (s.candidates.size() == 10 || !in(glass, 0, 3) || !in(hours, 1, 99)) return -1;
        s.candidates.add(new int[] {glass, hours});
        return s.candidates.size() - 1;
    }

    long worth(int curve, int[] candidate) {
        List<Long> noises = new ArrayList<>();
        for (int r = 0; r < s.rows.size(); r++) {
            if (s.rows.get(r).glass == candidate[0] && laid(curve, r).is()) noises.add(laid(curve, r).noise());
        }
        if (noises.isEmpty()) return 0;
        long mean = noises.stream().mapToLong(x -> x).sum() / noises.size();
        return candidate[1] * 1000000L / mean;
    }

    long next(int curve, int hours, int what) {
        if (!isCurve(curve) || !in(hours, 0, 999) || !in(what, 0, 1)) return -1;
        int n = s.candidates.size();
        long[] worths = new long[n];
        for (int i = 0; i < n; i++) worths[i] = worth(curve, s.candidates.get(i));
        long[][] sets = new long[1 << n][];
        for (int set = 0; set < 1 << n; set++) {
            long worth = 0;
            long used = 0;
            for (int i = 0; i < n; i++) {
                if ((set & 1 << i) != 0) {
                    worth += worths[i];
                    used += s.candidates.get(i)[1];
                }
            }
            sets[set] = new long[] {worth, used, set};
        }
        long[] best = Arrays.stream(sets).filter(t -> t[1] <= hours).min((p, q) ->
                p[0] != q[0] ? Long.compare(q[0], p[0]) : p[1] != q[1] ? Long.compare(p[1], q[1]) : Long.compare(p[2], q[2])).get();
        return what == 0 ? best[2] : best[0];
    }

    // ---- WAYS ----

    int told(int what, int n) {
        if (!in(what, 0, 3) || !in(n, 0, 9999)) return -1;
        int before = s.told[what];
        s.told[what] = n;
        return before;
    }

    int gives(int way) {
        if (!in(way, 0, ways.size() - 1)) return -1;
        ToLongFunction<String> words = w -> {
            int i = Arrays.asList("light", "heat", "storm", "fall", "week").indexOf(w);
            return i == 4 ? s.now : s.told[i];
        };
        long sum = 0;
        for (Grammar.Clause c : ways.get(way)) if (c.test == null || c.test.holds(words)) sum += c.sum.value(words);
        return (int) Math.min(99999999, Math.max(0, sum));
    }

    int brief(int need) {
        if (!in(need, 0, 999999999)) return -1;
        long all = 0;
        for (int w = 0; w < ways.size(); w++) all += gives(w);
        return (int) Math.max(0, need - all);
    }

    int fewest(int need, int what) {
        if (!in(need, 0, 999999999) || !in(what, 0, 1)) return -1;
        for (int many = 0; many <= ways.size(); many++) {
            int best = -1;
            long most = -1;
            for (int set = 0; set < 1 << ways.size(); set++) {
                if (Integer.bitCount(set) != many) continue;
                long sum = 0;
                for (int w = 0; w < ways.size(); w++) if ((set & 1 << w) != 0) sum += gives(w);
                if (sum >= need && sum > most) {
                    best = set;
                    most = sum;
                }
            }
            if (best >= 0) return what == 0 ? many : best;
        }
        return -2;
    }

    int count(int what) {
        int numbers = 0;
        for (Row r : s.rows) for (Integer n : r.raw) if (n != null) numbers++;
        int[] counts = {s.now, s.rows.size(), s.slips.size(), s.lines.size(), laws.size(), curves.size(), ways.size(),
            s.candidates.size(), numbers, s.tape.size(), s.houses.size()};
        return in(what, 0, 10) ? counts[what] : -1;
    }

    int image(int k) {
        if (!in(k, 0, 3)) return -1;
        images[k] = s.copy();
        return s.rows.size();
    }

    int back(int k) {
        if (!in(k, 0, 3) || images[k] == null) return -1;
        s = images[k].copy();
        return s.rows.size();
    }
}
