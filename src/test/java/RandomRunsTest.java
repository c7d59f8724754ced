import java.nio.charset.StandardCharsets;
import java.util.Random;

/** Runs of calls with drawn arguments on ThinLine and on the Model: every answer is to be the same. */
public final class RandomRunsTest {
    /** A text takes up to twenty-four of the 512 calls of one object. */
    private static final int CALLS = 512 - 24;

    private final Random random;
    private final RandomTexts texts;
    private final ThinLine x = new ThinLine();
    private final Model m = new Model();
    private final int run;
    private int calls;

    private RandomRunsTest(int run) {
        this.run = run;
        random = new Random(run * 7919L + 13);
        texts = new RandomTexts(random);
    }

    public static void main(String[] args) {
        int runs = args.length > 0 ? Integer.parseInt(args[0]) : 60;
        int from = args.length > 1 ? Integer.parseInt(args[1]) : 0;
        for (int run = from; run < from + runs && Due.wrongSoFar() < 20; run++) new RandomRunsTest(run).go();
        Due.end();
    }

    private int upTo(int most) {
        return random.nextInt(Math.max(0, most) + 1);
    }

    /** A number in order, but now and then one beside it. */
    private int in(int least, int most) {
        switch (upTo(60)) {
            case 0: return least - 1;
            case 1: return most + 1;
            case 2: return new int[] {Integer.MIN_VALUE, Integer.MAX_VALUE, -1, 0, 1000000, -1000000}[upTo(5)];
            case 3: return least;
            case 4: return most;
            default: return most < least ? least : least + upTo(most - least);
        }
    }

    private void due(String call, long got, long want) {
        calls++;
        Due.due("run " + run + ", call " + calls + ": " + call, got, want);
    }

    private void go() {
        begin();
        while (calls < CALLS && Due.wrongSoFar() < 20) step();
    }

    private void begin() {
        int rows = run % 5 == 0 ? upTo(2) : 3 + upTo(21);
        for (int i = 1 + upTo(4); i > 0; i--) text(0, texts.ordinary(0));
        text(0, "shine 1000 + colour * glass - hour; noise " + upTo(60) + "; ripple " + (2 + upTo(60)) + " " + upTo(400) + "; eats " + upTo(2) + " " + upTo(900));
        for (int i = 1 + upTo(6); i > 0; i--) text(1, texts.ordinary(1));
        text(1, run % 2 == 0 ? "gap " + (100 + upTo(50)) + " " + (150 + upTo(20)) : "bends " + upTo(20) + "; skip colour < " + upTo(60));
        for (int i = 1 + upTo(6); i > 0; i--) text(2, texts.ordinary(2));
        for (int i = upTo(30); i > 0; i--) line(random.nextBoolean());
        for (int i = 0; i < rows; i++) {
            row();
            due("make", m.laws.isEmpty() ? -1 : x.make(m.laws.size() - 1, i, i, 0, 299),
                m.laws.isEmpty() ? -1 : m.make(m.laws.size() - 1, i, i, 0, 299));
            if (upTo(4) == 0) holes(i);
            if (upTo(2) == 0) slip();
            if (upTo(2) == 0) clock();
        }
    }

    private void holes(int row) {
        for (int i = upTo(6); i > 0; i--) {
            int colour = in(0, 299);
            due("raw(" + row + ", " + colour + ", nothing)", x.raw(row, colour, -1000000), m.raw(row, colour, -1000000));
        }
    }

    private void text(int sort, String text) {
        byte[] bytes = text.getBytes(StandardCharsets.ISO_8859_1);
        int before = m.count(9);
        for (int at = 0; at < bytes.length; at += 20) {
            int[] n = new int[5];
            for (int i = 0; i < 5; i++) n[i] = Due.four(bytes, at + 4 * i);
            due("feed", x.feed(n[0], n[1], n[2], n[3], n[4]), m.feed(n[0], n[1], n[2], n[3], n[4]));
        }
        int end = before + bytes.length;
        due("end(" + end + ")", x.end(end), m.end(end));
        if (upTo(40) == 0) image();
        due("text(" + sort + ") of <" + text + ">", x.text(sort), m.text(sort));
    }

    private void clock() {
        int week = upTo(9) == 0 ? in(0, 399) : Math.min(399, m.s.now + upTo(30));
        due("clock(" + week + ")", x.clock(week) ? 1 : 0, m.clock(week) ? 1 : 0);
    }

    private void row() {
        int glass = in(0, 3);
        int hour = upTo(1) == 0 ? in(0, 3) : in(0, 999);
        due("row(" + glass + ", " + hour + ")", x.row(glass, hour), m.row(glass, hour));
    }

    private void slip() {
        int glass = in(0, 3);
        int from = in(0, 299);
        int to = in(from, 299);
        int n = upTo(3) == 0 ? in(-9999, 9999) : in(-300, 300);
        due("slip(" + glass + ", " + from + ", " + to + ", " + n + ")", x.slip(glass, from, to, n), m.slip(glass, from, to, n));
    }

    private void line(boolean near) {
        int stuff = near ? in(0, 2) : in(0, 11);
        int colour = near ? in(120, 180) : in(0, 299);
        int depth = in(1, 1000);
        due("line(" + stuff + ", " + colour + ", " + depth + ")", x.line(stuff, colour, depth), m.line(stuff, colour, depth));
    }

    private void image() {
        int k = in(0, 3);
        if (random.nextBoolean()) due("image(" + k + ")", x.image(k), m.image(k));
        else due("back(" + k + ")", x.back(k), m.back(k));
    }

    private int aCurve() {
        return in(0, m.curves.size() - 1);
    }

    private int aRow() {
        return in(0, m.s.rows.size() - 1);
    }

    /** A bar near a SCORE that there is. */
    private int bar() {
        if (m.s.rows.isEmpty() || m.curves.isEmpty() || upTo(3) == 0) return in(-999999, 999999);
        long score = m.deep(upTo(m.curves.size() - 1), upTo(m.s.rows.size() - 1), 2);
        return (int) Math.max(-999999, Math.min(999999, score + upTo(2) - 1));
    }

    private void step() {
        int kind = upTo(99);
        if (kind < 18) told(kind);
        else if (kind < 30) counted(kind);
        else if (kind < 62) seen(kind);
        else if (kind < 76) glasses(kind);
        else if (kind < 86) houses(kind);
        else ways(kind);
    }

    private void told(int kind) {
        switch (kind) {
            case 0: clock(); break;
            case 1: row(); break;
            case 2: case 3: slip(); break;
            case 4: line(true); break;
            case 5: line(false); break;
            case 6: case 7: {
                int slip = in(0, m.s.slips.size() - 1);
                int n = in(-9999, 9999);
                due("anew(" + slip + ", " + n + ")", x.anew(slip, n), m.anew(slip, n));
                break;
            }
            case 8: case 9: case 10: {
                int row = aRow();
                int colour = in(0, 299);
                int n = upTo(4) == 0 ? -1000000 : upTo(3) == 0 ? in(-100000, 100000) : in(0, 2000);
                due("raw(" + row + ", " + colour + ", " + n + ")", x.raw(row, colour, n), m.raw(row, colour, n));
                break;
            }
            case 11: {
                int n = in(0, m.count(9));
                due("end(" + n + ")", x.end(n), m.end(n));
                break;
            }
            case 12: image(); break;
            case 13: case 14: {
                int sort = upTo(2);
                text(sort, texts.any(sort));
                break;
            }
            case 15: {
                int sort = in(0, 2);
                due("text(" + sort + ")", x.text(sort), m.text(sort));
                break;
            }
            default: {
                int law = in(0, m.laws.size() - 1);
                int row = aRow();
                int seed = in(0, Integer.MAX_VALUE - 1);
                int from = in(0, 299);
                int to = in(from, 299);
                due("make(" + law + ", " + row + ", " + seed + ", " + from + ", " + to + ")",
                    x.make(law, row, seed, from, to), m.make(law, row, seed, from, to));
            }
        }
    }

    private void counted(int kind) {
        if (kind < 24) {
            int what = in(0, 10);
            due("count(" + what + ")", x.count(what), m.count(what));
        } else {
            int row = aRow();
            int colour = in(0, 299);
            due("read(" + row + ", " + colour + ")", x.read(row, colour), m.read(row, colour));
        }
    }

    private void seen(int kind) {
        int curve = aCurve();
        int row = aRow();
        String of = "(" + curve + ", " + row + ", ";
        switch (kind) {
            case 30: case 31: case 32: {
                int colour = in(0, 299);
                int what = in(0, 2);
                due("curve" + of + colour + ", " + what + ")", x.curve(curve, row, colour, what), m.curve(curve, row, colour, what));
                break;
            }
            case 33: case 34: case 35: {
                int what = in(0, 4);
                due("deep" + of + what + ")", x.deep(curve, row, what), m.deep(curve, row, what));
                break;
            }
            case 36: case 37: {
                int from = in(0, 299);
                due("moved" + of + from + ")", x.moved(curve, row, from), m.moved(curve, row, from));
                break;
            }
            case 38: {
                int what = in(0, 1);
                due("elsewhere" + of + what + ")", x.elsewhere(curve, row, what), m.elsewhere(curve, row, what));
                break;
            }
            case 39: {
                int what = in(0, 1);
                due("deepest" + of + what + ")", x.deepest(curve, row, what), m.deepest(curve, row, what));
                break;
            }
            case 40: case 41: {
                int law = in(0, m.laws.size() - 1);
                int seed = in(0, Integer.MAX_VALUE - 1);
                int n = upTo(9) == 0 ? in(1, 50) : in(1, 5);
                due("drawn(" + law + ", " + curve + ", " + row + ", " + seed + ", " + n + ")",
                    x.drawn(law, curve, row, seed, n), m.drawn(law, curve, row, seed, n));
                break;
            }
            case 42: case 43: {
                int bends = in(0, 40);
                due("bent" + of + bends + ")", x.bent(curve, row, bends), m.bent(curve, row, bends));
                break;
            }
            case 44: case 45: {
                int price = upTo(2) == 0 ? in(0, 99999) : in(0, 99);
                int what = in(0, 1);
                due("best" + of + price + ", " + what + ")", x.best(curve, row, price, what), m.best(curve, row, price, what));
                break;
            }
            case 46: case 47: {
                int d = in(1, 9999);
                int w = in(1, 99);
                due("taken" + of + d + ", " + w + ")", x.taken(curve, row, d, w), m.taken(curve, row, d, w));
                break;
            }
            case 48: case 49: case 50: case 51: case 52: {
                int stuff = upTo(1) == 0 ? in(0, 2) : in(0, 11);
                int what = in(0, 3);
                due("stuff" + of + stuff + ", " + what + ")", x.stuff(curve, row, stuff, what), m.stuff(curve, row, stuff, what));
                break;
            }
            case 53: case 54: due("likeliest" + of, x.likeliest(curve, row), m.likeliest(curve, row)); break;
            case 55: case 56: {
                int what = in(0, 1);
                due("ripple" + of + what + ")", x.ripple(curve, row, what), m.ripple(curve, row, what));
                break;
            }
            case 57: case 58: due("smooth" + of, x.smooth(curve, row), m.smooth(curve, row)); break;
            case 59: case 60: {
                int slip = in(0, m.s.slips.size() - 1);
                due("without" + of + slip + ")", x.without(curve, row, slip), m.without(curve, row, slip));
                break;
            }
            default: due("weightiest" + of, x.weightiest(curve, row), m.weightiest(curve, row));
        }
    }

    private void glasses(int kind) {
        int curve = aCurve();
        int week = upTo(2) == 0 ? in(0, 399) : in(0, m.s.now + 10);
        int what = in(0, 1);
        switch (kind) {
            case 62: case 63: case 64: {
                int glasses = in(1, 15);
                int part = in(0, 2);
                due("together(" + curve + ", " + glasses + ", " + week + ", " + part + ")",
                    x.together(curve, glasses, week, part), m.together(curve, glasses, week, part));
                break;
            }
            case 65: case 66: due("hour(" + curve + ", " + week + ", " + what + ")", x.hour(curve, week, what), m.hour(curve, week, what)); break;
            case 67: case 68: {
                int bar = bar();
                due("said(" + curve + ", " + week + ", " + bar + ")", x.said(curve, week, bar), m.said(curve, week, bar));
                break;
            }
            case 69: case 70: case 71: {
                int to = upTo(9) == 0 ? in(week, 399) : in(week, week + 99);
                int bar = bar();
                int glasses = in(1, 4);
                due("weeks(" + curve + ", " + week + ", " + to + ", " + bar + ", " + glasses + ", " + what + ")",
                    x.weeks(curve, week, to, bar, glasses, what), m.weeks(curve, week, to, bar, glasses, what));
                break;
            }
            case 72: case 73: {
                int other = aCurve();
                int bar = bar();
                due("apart(" + curve + ", " + other + ", " + bar + ")", x.apart(curve, other, bar), m.apart(curve, other, bar));
                break;
            }
            default: {
                int glass = in(0, 3);
                due("odd(" + curve + ", " + glass + ")", x.odd(curve, glass), m.odd(curve, glass));
            }
        }
    }

    private void houses(int kind) {
        int week = upTo(2) == 0 ? in(0, 399) : in(0, m.s.now + 10);
        switch (kind) {
            case 76: case 77: {
                int curve = aCurve();
                int bar = bar();
                int glasses = in(1, 15);
                due("house(" + curve + ", " + bar + ", " + glasses + ")", x.house(curve, bar, glasses), m.house(curve, bar, glasses));
                break;
            }
            case 78: case 79: case 80: {
                int house = in(0, m.s.houses.size() - 1);
                due("says(" + house + ", " + week + ")", x.says(house, week), m.says(house, week));
                break;
            }
            case 81: case 82: due("agreed(" + week + ")", x.agreed(week), m.agreed(week)); break;
            default: due("alone(" + week + ")", x.alone(week), m.alone(week));
        }
    }

    private void ways(int kind) {
        int what = in(0, 1);
        int need = upTo(3) == 0 ? in(0, 999999999) : in(0, 30000);
        switch (kind) {
            case 86: case 87: {
                int glass = in(0, 3);
                int hours = in(1, 99);
                due("candidate(" + glass + ", " + hours + ")", x.candidate(glass, hours), m.candidate(glass, hours));
                break;
            }
            case 88: case 89: {
                int curve = aCurve();
                int hours = upTo(1) == 0 ? in(0, 999) : in(0, 200);
                due("next(" + curve + ", " + hours + ", " + what + ")", x.next(curve, hours, what), m.next(curve, hours, what));
                break;
            }
            case 90: case 91: {
                int which = in(0, 3);
                int n = in(0, 9999);
                due("told(" + which + ", " + n + ")", x.told(which, n), m.told(which, n));
                break;
            }
            case 92: case 93: case 94: {
                int way = in(0, m.ways.size() - 1);
                due("gives(" + way + ")", x.gives(way), m.gives(way));
                break;
            }
            case 95: case 96: due("brief(" + need + ")", x.brief(need), m.brief(need)); break;
            default: due("fewest(" + need + ", " + what + ")", x.fewest(need, what), m.fewest(need, what));
        }
    }
}
