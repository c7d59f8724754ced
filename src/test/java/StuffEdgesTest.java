/** Terms, parts IV and VI, and promises 22, 23 and 28 to 31: STUFFS, ripples and SLIPS where something is just so. */
public final class StuffEdgesTest {
    private static final int NOTHING = -1000000;
    private static final int NONE = ThinLine.NONE;
    private static final String STRAIGHT = "bends 0; wide 0; gap 150 152";

    public static void main(String[] args) {
        amountByDeep();
        amountDownwards();
        amountOfColoursWithANumber();
        amountIsNone();
        amountBeyondAnInt();
        linesAtTheGapsEnds();
        elseIsAnyNumber();
        thereJustSo();
        thereOfMuch();
        thereOfNothing();
        boundsOfElse();
        boundOfSeveral();
        likeliestPart();
        likeliestWithoutElse();
        periods();
        periodsOfSeveral();
        powerDownwards();
        powerOfUsed();
        smoothDownwards();
        smoothByRests();
        withoutEach();
        weightiestOfSeveral();
        weightiestIsNone();
        Due.end();
    }

    /** HEIGHT is 0 all over, unless a number is told at 0 or 299. */
    private static ThinLine with(String curve, int... read) {
        ThinLine x = new ThinLine();
        x.row(0, 0);
        x.raw(0, 0, 0);
        x.raw(0, 299, 0);
        for (int i = 0; i + 1 < read.length; i += 2) x.raw(0, read[i], read[i + 1]);
        Due.curve(x, curve);
        return x;
    }

    private static void amountByDeep() {
        int[][] due = {{-5, 0}, {-1, 0}, {0, 0}, {1, 1000}, {2, 2000}, {100000, 100000000}};
        for (int[] d : due) {
            ThinLine x = with(STRAIGHT, 150, -d[0]);
            x.line(4, 150, 1);
            Due.due("amount of deep " + d[0], x.stuff(0, 0, 4, 0), d[1]);
        }
        // DEEP of 0.5 is 0, and below 1
        ThinLine x = with(STRAIGHT, 150, -1, 151, 0);
        x.line(4, 150, 1);
        Due.due("amount of deep 0, downwards", x.stuff(0, 0, 4, 0), 0);
    }

    private static void amountDownwards() {
        int[][] due = {{1, 1000}, {2, 500}, {3, 333}, {600, 1}, {999, 1}, {1000, 1}};
        for (int[] d : due) {
            ThinLine x = with(STRAIGHT, 150, -1);
            x.line(0, 150, d[0]);
            Due.due("amount of a depth of " + d[0], x.stuff(0, 0, 0, 0), d[1]);
        }
        // DEEP is downwards first: 3 by 2 is 1, and 1 * 2 * 1000 by 7 is 285
        ThinLine x = with(STRAIGHT, 150, -2, 151, -1);
        x.line(11, 150, 3);
        x.line(11, 151, 4);
        Due.due("amount of two lines", x.stuff(0, 0, 11, 0), 285);
    }

    private static void amountOfColoursWithANumber() {
        ThinLine x = with(STRAIGHT, 150, -6, 151, -6, 152, -6);
        x.line(1, 150, 10);
        Due.due("three colours, a line at one", x.stuff(0, 0, 1, 0), 6 * 3 * 1000 / 10);
        x.raw(0, 152, NOTHING);
        Due.due("two colours, a line at one", x.stuff(0, 0, 1, 0), 6 * 2 * 1000 / 10);
        x.line(1, 152, 10);
        Due.due("a line where nothing is", x.stuff(0, 0, 1, 0), 6 * 2 * 1000 / 10);
        x.raw(0, 152, -6);
        Due.due("a line where a number is", x.stuff(0, 0, 1, 0), 6 * 3 * 1000 / 20);
        x.line(2, 151, 10);
        Due.due("a line of another stuff", x.stuff(0, 0, 1, 0), 6 * 3 * 1000 / 20);
    }

    private static void amountIsNone() {
        ThinLine x = with(STRAIGHT, 150, -6, 20, 0);
        Due.due("no lines at all", x.stuff(0, 0, 1, 0), NONE);
        x.line(1, 20, 5);
        x.line(1, 151, 5);
        Due.due("no lines at such colours", x.stuff(0, 0, 1, 0), NONE);
        Due.due("none is there of no amount", x.stuff(0, 0, 1, 2), 0);
        x.line(1, 150, 5);
        Due.due("a line at such a colour", x.stuff(0, 0, 1, 0), 1200);
        x.raw(0, 150, 6);
        Due.due("deep below 1, and a line", x.stuff(0, 0, 1, 0), 0);
        Due.due("deep below 1, and no line", x.stuff(0, 0, 2, 0), NONE);
        x.raw(0, 150, NOTHING);
        Due.due("no deep", x.stuff(0, 0, 1, 0), NONE);
        x.raw(0, 150, -6);
        x.raw(0, 0, NOTHING);
        x.raw(0, 299, NOTHING);
        Due.due("no curve", x.stuff(0, 0, 1, 0), NONE);
        Due.due("else without a curve", x.stuff(0, 0, 1, 1), 1);
        Due.due("there without a curve", x.stuff(0, 0, 1, 2), 0);
        Due.due("bound without a curve", x.stuff(0, 0, 1, 3), NONE);
    }

    private static void amountBeyondAnInt() {
        ThinLine x = new ThinLine();
        Due.law(x, "shine 0 - 50000");
        x.row(0, 0);
        x.make(0, 0, 0, 0, 298);
        x.raw(0, 299, 100000);
        Due.curve(x, "gap 0 298; bends 0; wide 0");
        x.line(0, 0, 1);
        x.line(0, 299, 1000);
        Due.due("deep", x.deep(0, 0, 0), 150000);
        Due.due("amount", x.stuff(0, 0, 0, 0), 150000L * 299 * 1000);
        Due.due("not there", x.stuff(0, 0, 0, 2), 0);
        Due.due("not likely, but alone", x.likeliest(0, 0), 0);
    }

    private static void linesAtTheGapsEnds() {
        int[][] due = {
            // COLOUR, AMOUNT, ELSE
            {149, NONE, 1}, {150, 3000, 0}, {152, 3000, 0}, {153, NONE, 1}};
        for (int[] d : due) {
            ThinLine x = with(STRAIGHT, 149, -1, 150, -1, 151, -1, 152, -1, 153, -1);
            x.line(7, d[0], 1);
            // DEEP 1 of three COLOURS
            Due.due("a line at " + d[0] + ": amount", x.stuff(0, 0, 7, 0), d[1]);
            Due.due("a line at " + d[0] + ": else", x.stuff(0, 0, 7, 1), d[2]);
        }
        ThinLine x = with(STRAIGHT, 150, -1);
        x.line(7, 0, 1);
        x.line(7, 299, 1);
        x.line(7, 298, 1);
        Due.due("else at the ends of all", x.stuff(0, 0, 7, 1), 2);
    }

    private static void elseIsAnyNumber() {
        ThinLine x = with(STRAIGHT + "; skip colour = 20", 150, -1, 20, -9);
        x.line(7, 20, 1000);
        x.line(7, 150, 1000);
        Due.due("else where it is skipped", x.stuff(0, 0, 7, 1), 1);
        Due.due("there where it is skipped", x.stuff(0, 0, 7, 2), 1);
        // NOISE is 1, LEFT -9
        Due.due("bound where it is skipped", x.stuff(0, 0, 7, 3), 10);
        x.raw(0, 20, NOTHING);
        Due.due("no else where nothing is", x.stuff(0, 0, 7, 1), 0);
        Due.due("none there where nothing is", x.stuff(0, 0, 7, 2), 0);
        Due.due("no bound where nothing is", x.stuff(0, 0, 7, 3), NONE);
    }

    private static void thereJustSo() {
        int[][] due = {
            // depth, LEFT, THERE: AMOUNT is 200
            {500, -49, 0}, {500, -50, 1}, {500, -51, 1}, {504, -50, 1}, {505, -50, 0}, {505, -51, 1}, {509, -50, 0}, {510, -51, 1}, {515, -51, 0},
            {4, 0, 1}, {5, 0, 0}, {5, -1, 1}, {1000, -99, 0}, {1000, -100, 1}, {4, 1, 0}};
        for (int[] d : due) {
            ThinLine x = with(STRAIGHT, 150, -100, 20, d[1]);
            x.line(0, 150, 500);
            x.line(0, 20, d[0]);
            Due.due("amount", x.stuff(0, 0, 0, 0), 200);
            Due.due("there at a depth of " + d[0] + ", left " + d[1], x.stuff(0, 0, 0, 2), d[2]);
        }
    }

    private static void thereOfMuch() {
        int[][] due = {{1000, -49999, 0}, {1000, -50000, 1}, {999, -49950, 1}, {999, -49949, 0}, {1, -50, 1}, {1, -49, 0}};
        for (int[] d : due) {
            // an AMOUNT of a hundred thousand
            ThinLine x = with(STRAIGHT, 150, -100, 20, d[1]);
            x.line(0, 150, 1);
            x.line(0, 20, d[0]);
            Due.due("an amount of 100000 at a depth of " + d[0] + ", left " + d[1], x.stuff(0, 0, 0, 2), d[2]);
        }
    }

    private static void thereOfNothing() {
        int[][] due = {{-1, 1}, {0, 1}, {1, 0}};
        for (int[] d : due) {
            ThinLine x = with(STRAIGHT, 150, 0, 20, d[0]);
            x.line(0, 150, 500);
            x.line(0, 20, 1000);
            Due.due("an amount of 0, left " + d[0], x.stuff(0, 0, 0, 2), d[1]);
            Due.due("an amount of 0 is one", x.likeliest(0, 0), 0);
        }
    }

    private static void boundsOfElse() {
        int[][] due = {
            // LEFT, depth, BOUND: NOISE is a third of LEFT without sign, upwards
            {0, 1, 1000}, {0, 600, 1}, {0, 999, 1}, {0, 1000, 1}, {1, 1, 0}, {2, 1, 0}, {-2, 7, 428}, {-3, 3, 1333}, {-4, 1000, 6}, {100000, 1, 0},
            {-100000, 1, 133334000}};
        for (int[] d : due) {
            ThinLine x = with(STRAIGHT, 20, d[0]);
            x.line(0, 20, d[1]);
            Due.due("bound of left " + d[0] + " at a depth of " + d[1], x.stuff(0, 0, 0, 3), d[2]);
            Due.due("no other has one", x.stuff(0, 0, 1, 3), NONE);
        }
        ThinLine x = with(STRAIGHT, 20, 0, 150, 0);
        x.line(0, 150, 5);
        Due.due("no else, no bound", x.stuff(0, 0, 0, 3), NONE);
        x.line(0, 21, 5);
        Due.due("no else with a number, no bound", x.stuff(0, 0, 0, 3), NONE);
    }

    private static void boundOfSeveral() {
        ThinLine x = with(STRAIGHT, 20, -5, 30, -5, 40, -4);
        // NOISE is 14 by 5, upwards
        x.line(0, 20, 8);
        Due.due("bound of one", x.stuff(0, 0, 0, 3), 1000);
        x.line(0, 30, 10);
        Due.due("bound of two, the lesser is behind", x.stuff(0, 0, 0, 3), 800);
        x.line(0, 40, 8);
        Due.due("bound of three", x.stuff(0, 0, 0, 3), 800);
        x.line(0, 299, 1000);
        Due.due("bound of four", x.stuff(0, 0, 0, 3), 3);
        x.raw(0, 40, 50);
        // NOISE is 60 by 5: at 40 there is no room left
        Due.due("bound, 0 at least", x.stuff(0, 0, 0, 3), 0);
    }

    private static void likeliestPart() {
        // AMOUNT is 100 and less: LEFT -9 is there at any of these, LEFT 9 at none
        ThinLine x = with(STRAIGHT, 150, -1);
        for (int c = 20; c < 30; c++) x.raw(0, c, -9);
        for (int c = 40; c < 50; c++) x.raw(0, c, 9);
        x.line(5, 150, 100);
        lines(x, 5, 1, 1);
        Due.due("half of two", x.likeliest(0, 0), 5);
        x.line(6, 150, 100);
        lines(x, 6, 2, 2);
        Due.due("half of four, the least", x.likeliest(0, 0), 5);
        x.line(4, 150, 100);
        lines(x, 4, 2, 2);
        Due.due("half of four, the least, too", x.likeliest(0, 0), 4);
        x.line(8, 150, 100);
        lines(x, 8, 3, 2);
        Due.due("three of five", x.likeliest(0, 0), 8);
        x.line(9, 150, 100);
        lines(x, 9, 2, 1);
        Due.due("two of three", x.likeliest(0, 0), 9);
        x.line(7, 150, 100);
        lines(x, 7, 5, 3);
        Due.due("five of eight are less", x.likeliest(0, 0), 9);
        x.line(11, 150, 100);
        lines(x, 11, 1, 0);
        Due.due("one of one", x.likeliest(0, 0), 11);
        lines(x, 10, 4, 0);
        Due.due("four of four, but no amount", x.likeliest(0, 0), 11);
        x.line(0, 150, 100);
        lines(x, 0, 2, 0);
        Due.due("two of two, the least", x.likeliest(0, 0), 0);
    }

    private static void lines(ThinLine x, int stuff, int there, int not) {
        for (int i = 0; i < there; i++) x.line(stuff, 20 + i, 1);
        for (int i = 0; i < not; i++) x.line(stuff, 40 + i, 1);
    }

    private static void likeliestWithoutElse() {
        ThinLine x = with(STRAIGHT, 150, -1, 40, 9, 20, -9);
        Due.due("no stuff has an amount", x.likeliest(0, 0), -2);
        x.line(3, 150, 100);
        Due.due("without else it is 0, but one", x.likeliest(0, 0), 3);
        x.line(2, 150, 100);
        x.line(2, 40, 1000);
        Due.due("none of one is 0, too: the least", x.likeliest(0, 0), 2);
        x.line(1, 150, 100);
        Due.due("without else: the least", x.likeliest(0, 0), 1);
        x.line(11, 150, 100);
        x.line(11, 20, 100);
        Due.due("one of one is more than 0", x.likeliest(0, 0), 11);
        x.raw(0, 150, NOTHING);
        Due.due("no deep, no amount", x.likeliest(0, 0), -2);
    }

    /** A ROW that goes on with this period; the CURVE is flat. */
    private static ThinLine waves(int period) {
        ThinLine x = new ThinLine();
        x.row(0, 0);
        Due.law(x, "shine 1000; ripple " + period + " 900");
        x.make(0, 0, 0, 0, 299);
        Due.curve(x, "bends 0; wide 0; gap 299 299");
        return x;
    }

    private static void periods() {
        for (int period : new int[] {2, 3, 4, 33, 49, 50, 97, 98, 99}) {
            ThinLine x = waves(period);
            Due.due("the period " + period, x.ripple(0, 0, 0), period);
            long squares = 0;
            int flat = x.read(0, 0);
            for (int c = 0; c < 299; c++) {
                long left = x.read(0, c) - flat;
                squares += left * left;
            }
            Due.due("all of it", x.ripple(0, 0, 1), squares);
        }
        // a hundred is no period any more
        ThinLine x = new ThinLine();
        x.row(0, 0);
        Due.law(x, "shine colour - colour / 100 * 100");
        x.make(0, 0, 0, 0, 299);
        Due.curve(x, "bends 0; wide 0; gap 299 299");
        int[] left = new int[300];
        for (int c = 0; c < 299; c++) left[c] = c % 100;
        int best = 0;
        long most = -1;
        for (int p = 2; p <= 99; p++) {
            long power = 0;
            for (int rest = 0; rest < p; rest++) {
                long sum = 0;
                int many = 0;
                for (int c = rest; c < 299; c += p) {
                    sum += left[c];
                    many++;
                }
                power += sum * sum / many;
            }
            if (power > most) {
                best = p;
                most = power;
            }
        }
        Due.due("a period of a hundred is sought in vain", x.ripple(0, 0, 0), best);
        Due.due("its power", x.ripple(0, 0, 1), most);
    }

    private static void periodsOfSeveral() {
        // nothing is left: all have a POWER of 0
        Due.due("of several the least", with(STRAIGHT, 20, 0).ripple(0, 0, 0), 2);
        Due.due("of several the least, no power", with(STRAIGHT, 20, 0).ripple(0, 0, 1), 0);
        // one number alone: 20 has a rest of its own by 3 first, 0 and 299 have others
        ThinLine x = with(STRAIGHT, 20, 6);
        Due.due("by 2 with 0, by 3 with 299, by 4 with 0: by 5, by 6", x.ripple(0, 0, 0), 6);
        Due.due("alone", x.ripple(0, 0, 1), 36);
        // one KNOT, one number
        x = with("bends 0; wide 0; gap 299 299", 20, -6);
        Due.due("20 and 0 by 3", x.ripple(0, 0, 0), 3);
        Due.due("below 0, squared", x.ripple(0, 0, 1), 36);
    }

    private static void powerDownwards() {
        ThinLine x = with("bends 0; wide 0; gap 299 299", 20, 7);
        Due.due("0 and 20 are apart by 3", x.ripple(0, 0, 1), 49);
        for (int c = 1; c <= 6; c++) x.raw(0, c, 0);
        Due.due("by 7 it is with 6, by 8 with 4, by 9 with 2, by 10 with 0: by 11", x.ripple(0, 0, 0), 11);
        // 99 COLOURS have -595 together: 354025 by 99 is 3576 and a little
        Due.due("power, downwards", thirds(-6, -1).ripple(0, 0, 1), 3576);
        Due.due("power, even", thirds(-6, 0).ripple(0, 0, 1), 3564);
    }

    private static void powerOfUsed() {
        // what lies in the gap or is skipped has no part in it
        ThinLine x = with("bends 0; wide 0; gap 150 152; skip colour = 30", 150, 900, 151, -900, 30, 5000);
        Due.due("power of what is used", x.ripple(0, 0, 1), 0);
        Due.due("period of what is used", x.ripple(0, 0, 0), 2);
    }

    /** Each third COLOUR is another, one of them by one more. */
    private static ThinLine thirds(int by, int more) {
        ThinLine x = new ThinLine();
        x.row(0, 0);
        String other = by < 0 ? "1000 - " + -by : "1000 + " + by;
        Due.law(x, "shine " + other + " if colour - colour / 3 * 3 = 1; shine 1000");
        x.make(0, 0, 0, 0, 299);
        x.raw(0, 52, 1000 + by + more);
        Due.curve(x, "bends 0; wide 0; gap 151 151");
        return x;
    }

    private static void smoothDownwards() {
        ThinLine x = thirds(-6, -1);
        Due.due("the period", x.ripple(0, 0, 0), 3);
        // 99 COLOURS, -595 in all: downwards -7
        Due.due("deep", x.deep(0, 0, 0), 6);
        Due.due("smooth of a mean below 0", x.smooth(0, 0), -1);
        x = thirds(6, 1);
        Due.due("the period, above 0", x.ripple(0, 0, 0), 3);
        Due.due("deep below 0", x.deep(0, 0, 0), -6);
        Due.due("smooth of a mean above 0", x.smooth(0, 0), 0);
        x = thirds(-6, 0);
        Due.due("smooth of an even mean", x.smooth(0, 0), 0);
        // two COLOURS in the gap: -6 and 0 less -7 and 0, their mean turned and downwards
        x = thirds(-6, -1);
        Due.curve(x, "bends 0; wide 0; gap 151 152");
        Due.due("smooth of two", x.smooth(1, 0), -1);
        x.raw(0, 152, 999);
        Due.due("smooth of two, even", x.smooth(1, 0), 0);
        x.raw(0, 152, 998);
        Due.due("smooth of two, downwards", x.smooth(1, 0), 0);
        x.raw(0, 152, 997);
        Due.due("smooth of two, one", x.smooth(1, 0), 1);
    }

    private static void smoothByRests() {
        ThinLine x = waves(99);
        // the gap at 299 has the rest 2, as 2, 101 and 200
        Due.due("smooth at the last", x.smooth(0, 0), 0);
        x.raw(0, 299, 0);
        long due = x.read(0, 2);
        Due.due("smooth: as if the wave were not", x.smooth(0, 0), due);
        x.raw(0, 299, NOTHING);
        Due.due("smooth: no deep", x.smooth(0, 0), NOTHING);
        // a gap at the first COLOUR has the rest 0, as 20 and 40 by 5
        x = with("bends 0; wide 0; gap 0 0", 20, 50, 40, 50, 7, -30, 27, -30, 0, -10);
        Due.due("the period is 5", x.ripple(0, 0, 0), 5);
        Due.due("smooth at the first", x.smooth(0, 0), 60);
        // no USED COLOUR with its rest: 151 by 2 is 1
        x = with("bends 0; wide 0; gap 151 151; skip colour = 299", 151, -5, 2, 0, 4, 0);
        Due.due("the period is 2", x.ripple(0, 0, 0), 2);
        Due.due("less nothing", x.smooth(0, 0), 5);
    }

    private static void withoutEach() {
        ThinLine x = with(STRAIGHT, 150, -100);
        for (int i = 0; i < 40; i++) x.slip(i == 7 ? 1 : 0, 150, 150, i);
        int all = 100 + 780 - 7;
        Due.due("with all", x.deep(0, 0, 0), all);
        for (int i : new int[] {0, 1, 6, 8, 38, 39}) Due.due("without " + i, x.without(0, 0, i), all - i);
        Due.due("without one of another glass", x.without(0, 0, 7), all);
        Due.due("no slip 40", x.without(0, 0, 40), -2000000);
        Due.due("no slip -1", x.without(0, 0, -1), -2000000);
        Due.due("with all, as it was", x.deep(0, 0, 0), all);
        Due.due("weightiest", x.weightiest(0, 0), 39);
        x.raw(0, 150, NOTHING);
        for (int i : new int[] {0, 39}) Due.due("no deep without " + i, x.without(0, 0, i), NOTHING);
        Due.due("no deep, no weight", x.weightiest(0, 0), -2);
    }

    private static void weightiestOfSeveral() {
        ThinLine x = with(STRAIGHT, 150, -100);
        x.slip(0, 150, 150, 5);
        Due.due("the only one", x.weightiest(0, 0), 0);
        x.slip(0, 150, 150, -5);
        Due.due("as much, the other way", x.weightiest(0, 0), 0);
        x.slip(0, 150, 150, -6);
        Due.due("one more", x.weightiest(0, 0), 2);
        x.slip(0, 150, 150, 6);
        Due.due("as much, behind it", x.weightiest(0, 0), 2);
        x.anew(2, -4);
        Due.due("the last", x.weightiest(0, 0), 3);
        // at the KNOTS it weighs the other way
        x.slip(0, 0, 0, 9999);
        x.slip(0, 299, 299, 9999);
        Due.due("by the knots", x.weightiest(0, 0), x.without(0, 0, 4) > x.without(0, 0, 5) ? 4 : 5);
        x.slip(3, 0, 299, 9999);
        Due.due("not that of another glass", x.weightiest(0, 0) < 6, true);
    }

    private static void weightiestIsNone() {
        ThinLine x = with(STRAIGHT, 150, -100);
        Due.due("no slips", x.weightiest(0, 0), -2);
        x.slip(1, 150, 150, 5);
        Due.due("one that weighs nothing", x.weightiest(0, 0), 0);
        x.slip(0, 10, 10, 5);
        Due.due("two that weigh nothing", x.weightiest(0, 0), 0);
        x.slip(0, 150, 150, 1);
        Due.due("one that weighs", x.weightiest(0, 0), 2);
        x.raw(0, 0, NOTHING);
        x.raw(0, 299, NOTHING);
        Due.due("no curve", x.weightiest(0, 0), -2);
    }
}
