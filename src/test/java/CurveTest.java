/** Promises 12 to 21 and 32: numbers MADE, CURVES laid, gaps elsewhere, rows drawn, bends, lines put in. */
public final class CurveTest {
    /** A line of a hundred in the gap that a CURVE has without a CLAUSE. */
    static final String DIP = "shine 900 if colour >= 140 and colour <= 159; shine 1000";
    /** Knots at the COLOURS 0 and 299 alone, where there are numbers. */
    static final String STRAIGHT = "bends 0; wide 0; gap 150 150";

    public static void main(String[] args) {
        make();
        makeByNoise();
        makeEaten();
        knots();
        heights();
        used();
        deep();
        roundings();
        moved();
        elsewhere();
        deepest();
        drawn();
        drawnGoesOn();
        bent();
        best();
        taken();
        apart();
        Due.end();
    }

    private static void make() {
        ThinLine x = new ThinLine();
        x.row(2, 700);
        x.row(1, 5);
        Due.law(x, "shine 7 if colour < 10; shine 1000000 / 1 if 1 < 2");
        Due.due("make: a text with a fault makes no law", x.make(0, 0, 0, 0, 0), ThinLine.NONE);
        Due.law(x, "shine 7 if colour < 10; shine colour * 1000 + hour + glass * 10 + row; shine 3");
        Due.due("make: all", x.make(0, 1, 0, 0, 299), 300);
        Due.due("make: the first that holds", x.read(1, 9), 7);
        Due.due("make: the words", x.read(1, 10), 10016);
        Due.due("make: held", x.read(1, 50), 50000);
        Due.due("make: one", x.make(0, 0, Integer.MAX_VALUE, 10, 10), 1);
        Due.due("make: of its row", x.read(0, 10), 10720);
        Due.due("make: no other", x.read(0, 11), -1000000);
        Due.law(x, "shine 0 - colour * 1000");
        x.make(1, 0, 0, 0, 299);
        Due.due("make: held below", x.read(0, 51), -50000);
        Due.law(x, "noise 0");
        x.make(2, 0, 0, 0, 299);
        Due.due("make: 0 without", x.read(0, 51), 0);
        Due.law(x, "ripple 5 101");
        x.make(3, 0, 0, 0, 299);
        // 202 * (0, 1, 2, 2, 1) by 5, downwards, less 50
        int[] ripple = {-50, -10, 30, 30, -10};
        for (int c = 0; c < 10; c++) Due.due("make: ripple at " + c, x.read(0, c), ripple[c % 5]);
        int[][] wrong = {{-1, 0, 0, 0, 1}, {4, 0, 0, 0, 1}, {0, -1, 0, 0, 1}, {0, 2, 0, 0, 1}, {0, 0, -1, 0, 1}, {0, 0, 0, -1, 1},
            {0, 0, 0, 0, 300}, {0, 0, 0, 5, 4}};
        for (int[] w : wrong) Due.due("make: not as told", x.make(w[0], w[1], w[2], w[3], w[4]), ThinLine.NONE);
        Due.due("make: nothing happened", x.read(0, 0), -50);
    }

    private static void makeByNoise() {
        ThinLine x = new ThinLine();
        x.row(0, 0);
        Due.law(x, "shine 500; noise 100");
        x.make(0, 0, 1, 20, 22);
        // x becomes 1103527590 first, and that by 65536 is 16838
        long n = 1;
        for (int c = 20; c <= 22; c++) {
            n = (n * 1103515245L + 12345) % 2147483648L;
            Due.due("make: noise at " + c, x.read(0, c), 500 + n / 65536 % 201 - 100);
        }
        Due.due("make: the first one", x.read(0, 20), 500 + 16838 % 201 - 100);
        Due.law(x, "shine 50000; ripple 2 9999; noise 9999; shine 1");
        x.make(1, 0, 77, 0, 299);
        boolean within = true;
        for (int c = 0; c < 300; c++) within &= Math.abs(x.read(0, c) - 50000) <= 9999 + 5000;
        Due.due("make: as far as noise and ripple go", within, true);
    }

    private static void makeEaten() {
        ThinLine x = new ThinLine();
        x.row(0, 0);
        Due.law(x, "shine 1000; eats 3 1501; eats 3 1; eats 4 10");
        x.line(3, 7, 333);
        x.line(4, 7, 1000);
        x.line(5, 7, 1000);
        x.line(3, 8, 1);
        x.make(0, 0, 0, 0, 299);
        // 1501 * 333 by 1000: 499; 1 * 333 by 1000: 0; 10
        Due.due("make: eaten", x.read(0, 7), 1000 - 499 - 10);
        Due.due("make: eaten, downwards", x.read(0, 8), 999);
        Due.due("make: not eaten", x.read(0, 9), 1000);
        StringBuilder much = new StringBuilder("shine 0 - 50000");
        for (int i = 0; i < 11; i++) much.append("; eats 3 9999");
        Due.law(x, much.toString());
        x.line(3, 100, 1000);
        x.make(1, 0, 0, 100, 100);
        Due.due("make: held at last", x.read(0, 100), -100000);
    }

    private static void knots() {
        ThinLine x = new ThinLine();
        int row = Due.made(x, 0, 0, DIP, 1);
        Due.curve(x, "wide 3");
        Due.curve(x, "bends 1; wide 0; gap 149 149");
        Due.curve(x, "bends 40; wide 0");
        Due.due("knots: twelve bends", x.deep(0, row, 3), 14);
        Due.due("knots: in the gap", x.deep(1, row, 3), 2);
        Due.curve(x, "gap 0 0");
        Due.due("knots: twelve bends, and a gap elsewhere", x.deep(3, row, 3), 14);
        // the k-th of forty at 299 * k by 41: 140 is not in it, 145 and 153 are
        Due.due("knots: forty bends", x.deep(2, row, 3), 40);
        x.row(0, 0);
        Due.due("knots: without numbers", x.deep(0, 1, 3), 0);
        x.raw(1, 3, 5);
        Due.due("knots: at most wide away", x.deep(0, 1, 3), 1);
        Due.due("knots: at most 3 away without the clause", x.deep(3, 1, 3), 1);
        x.raw(1, 3, -1000000);
        x.raw(1, 4, 5);
        Due.due("knots: farther", x.deep(0, 1, 3), 0);
        Due.due("knots: farther than 3 without the clause", x.deep(3, 1, 3), 0);
        Due.due("knots: used all the same", x.deep(0, 1, 4), 1);
        Due.due("no curve: height", x.curve(0, 1, 4, 1), -1000000);
        Due.due("no curve: left", x.curve(0, 1, 4, 2), -1000000);
        Due.due("no curve: deep", x.deep(0, 1, 0), -1000000);
        Due.due("no curve: noise", x.deep(0, 1, 1), ThinLine.NONE);
        Due.due("no curve: score", x.deep(0, 1, 2), -1000000000);
    }

    private static void heights() {
        ThinLine x = new ThinLine();
        x.row(0, 0);
        Due.curve(x, STRAIGHT);
        x.raw(0, 0, 0);
        x.raw(0, 299, 299);
        for (int c : new int[] {0, 1, 150, 298, 299}) Due.due("height at " + c, x.curve(0, 0, c, 1), c);
        x.raw(0, 299, -1);
        Due.due("height: at the knot", x.curve(0, 0, 0, 1), 0);
        Due.due("height: downwards", x.curve(0, 0, 1, 1), -1);
        x.raw(0, 299, 1);
        Due.due("height: downwards, above 0", x.curve(0, 0, 298, 1), 0);
        // only the knot in the middle is there
        Due.curve(x, "bends 1; wide 1; gap 200 210");
        x.raw(0, 0, -1000000);
        x.raw(0, 299, -1000000);
        x.raw(0, 148, 10);
        x.raw(0, 150, 13);
        for (int c : new int[] {0, 148, 149, 150, 299}) Due.due("height: flat at " + c, x.curve(1, 0, c, 1), 11);
        x.raw(0, 148, -10);
        x.raw(0, 150, -13);
        Due.due("height: the mean, downwards", x.curve(1, 0, 5, 1), -12);
        // knots that are left out are gone over: 0 and 299, and none between
        Due.curve(x, "bends 12; wide 0; gap 200 210");
        x.raw(0, 0, 0);
        x.raw(0, 299, 299);
        Due.due("height: between those that are there", x.curve(2, 0, 100, 1), 100);
        Due.due("left", x.curve(2, 0, 148, 2), -158);
        Due.due("left: without a number", x.curve(2, 0, 149, 2), -1000000);
        int[][] wrong = {{-1, 0, 0, 0}, {3, 0, 0, 0}, {0, -1, 0, 0}, {0, 1, 0, 0}, {0, 0, -1, 0}, {0, 0, 300, 0}, {0, 0, 0, -1}, {0, 0, 0, 3}};
        for (int[] w : wrong) Due.due("curve: not as told", x.curve(w[0], w[1], w[2], w[3]), -2000000);
    }

    private static void used() {
        ThinLine x = new ThinLine();
        int row = Due.made(x, 2, 30, "shine 5", 1);
        Due.curve(x, "skip colour < 10; skip colour > 289 and glass = 2; skip hour < 30 or row > 0");
        Due.due("used: skipped", x.curve(0, row, 9, 0), 0);
        Due.due("used", x.curve(0, row, 10, 0), 1);
        Due.due("used: the last", x.curve(0, row, 289, 0), 1);
        Due.due("used: skipped by the second", x.curve(0, row, 290, 0), 0);
        Due.due("used: ahead of the gap", x.curve(0, row, 139, 0), 1);
        Due.due("used: in the gap", x.curve(0, row, 140, 0), 0);
        Due.due("used: in the gap still", x.curve(0, row, 159, 0), 0);
        Due.due("used: behind the gap", x.curve(0, row, 160, 0), 1);
        Due.due("used: how many", x.deep(0, row, 4), 300 - 10 - 10 - 20);
        x.raw(row, 50, -1000000);
        Due.due("used: nothing", x.curve(0, row, 50, 0), 0);
        Due.due("used: one less", x.deep(0, row, 4), 259);
        // what is skipped in the gap is DEEP all the same
        Due.curve(x, "skip colour >= 140 and colour <= 159");
        x.raw(row, 150, -15);
        Due.due("used: skip in the gap", x.deep(1, row, 0), 1);
    }

    private static void deep() {
        ThinLine x = new ThinLine();
        int row = Due.made(x, 0, 0, DIP, 1);
        Due.curve(x, "wide 3");
        Due.due("deep", x.deep(0, row, 0), 100);
        Due.due("noise: 1 at least", x.deep(0, row, 1), 1);
        Due.due("score", x.deep(0, row, 2), 100000);
        x.slip(0, 140, 149, -40);
        Due.due("deep: by what is read", x.deep(0, row, 0), 80);
        for (int c = 140; c < 159; c++) x.raw(row, c, -1000000);
        Due.due("deep: of one colour", x.deep(0, row, 0), 100);
        x.raw(row, 159, -1000000);
        Due.due("deep: none", x.deep(0, row, 0), -1000000);
        Due.due("score: none", x.deep(0, row, 2), -1000000000);
        Due.due("noise: without the gap", x.deep(0, row, 1), 1);
        Due.due("knots: without the gap", x.deep(0, row, 3), 14);
        int[][] wrong = {{-1, 0, 0}, {1, 0, 0}, {0, -1, 0}, {0, 1, 0}, {0, 0, -1}, {0, 0, 5}};
        for (int[] w : wrong) Due.due("deep: not as told", x.deep(w[0], w[1], w[2]), -2000000000);
        // a gap over all COLOURS leaves none to use
        Due.curve(x, "gap 0 299");
        Due.due("deep: nothing used", x.deep(1, row, 4), 0);
        Due.due("deep: no curve", x.deep(1, row, 0), -1000000);
    }

    private static void roundings() {
        ThinLine x = new ThinLine();
        x.row(0, 0);
        Due.curve(x, "bends 0; wide 0; gap 150 151");
        x.raw(0, 0, 0);
        x.raw(0, 299, 0);
        x.raw(0, 150, -1);
        x.raw(0, 151, -2);
        Due.due("deep: downwards", x.deep(0, 0, 0), 1);
        x.raw(0, 150, 1);
        x.raw(0, 151, 2);
        Due.due("deep: downwards below 0", x.deep(0, 0, 0), -2);
        x.raw(0, 10, 4);
        Due.due("noise: upwards", x.deep(0, 0, 1), 2);
        x.raw(0, 20, -5);
        Due.due("noise: without sign", x.deep(0, 0, 1), 3);
        Due.due("score: downwards", x.deep(0, 0, 2), -667);
    }

    private static void moved() {
        ThinLine x = new ThinLine();
        int row = Due.made(x, 0, 0, "shine 950 if colour >= 10 and colour <= 29; shine 1000", 1);
        Due.curve(x, "gap 140 159");
        Due.due("moved: onto the line", x.moved(0, row, 10), 50000);
        Due.due("moved: to its own", x.moved(0, row, 140), x.deep(0, row, 2));
        Due.due("moved: to the last place", x.moved(0, row, 280) != -2000000000, true);
        Due.due("moved: to the first place", x.moved(0, row, 0) != -2000000000, true);
        Due.due("moved: as it was", x.deep(0, row, 0), 0);
        int[][] wrong = {{-1, 0, 0}, {1, 0, 0}, {0, -1, 0}, {0, 1, 0}, {0, 0, -1}, {0, 0, 281}, {0, 0, Integer.MAX_VALUE}};
        for (int[] w : wrong) Due.due("moved: not as told", x.moved(w[0], w[1], w[2]), -2000000000);
        for (int c = 100; c < 120; c++) x.raw(row, c, -1000000);
        Due.due("moved: no deep", x.moved(0, row, 100), -1000000000);
        Due.due("moved: one colour", x.moved(0, row, 101), 0);
    }

    private static void elsewhere() {
        ThinLine x = new ThinLine();
        int row = Due.made(x, 0, 0, DIP, 1);
        int flat = Due.made(x, 0, 0, "shine 1000", 1);
        Due.curve(x, "gap 140 159");
        Due.curve(x, "gap 100 299");
        Due.curve(x, "gap 0 100");
        Due.due("elsewhere: places", x.elsewhere(0, row, 0), 121 + 121);
        Due.due("elsewhere: none as deep", x.elsewhere(0, row, 1), 0);
        Due.due("elsewhere: all as flat", x.elsewhere(0, flat, 1), 242);
        Due.due("elsewhere: no room", x.elsewhere(1, flat, 0), 0);
        Due.due("elsewhere: no room, none", x.elsewhere(1, flat, 1), 0);
        Due.due("elsewhere: behind alone", x.elsewhere(2, flat, 0), 99);
        // a deeper line beside: the place on it is not below
        for (int c = 200; c < 220; c++) x.raw(row, c, 500);
        int notBelow = 0;
        long own = x.deep(0, row, 2);
        for (int from = 0; from <= 280; from++) {
            notBelow += Math.abs(from - 140) >= 20 && x.moved(0, row, from) >= own ? 1 : 0;
        }
        Due.due("elsewhere: those not below", x.elsewhere(0, row, 1), notBelow);
        Due.due("elsewhere: there are some", notBelow > 0, true);
        for (int c = 0; c < 30; c++) x.raw(row, c, -1000000);
        // no number in the gap: it begins at 0 to 10
        Due.due("elsewhere: those with a deep", x.elsewhere(0, row, 0), 242 - 11);
        for (int c = 140; c < 160; c++) x.raw(row, c, -1000000);
        Due.due("elsewhere: no deep", x.elsewhere(0, row, 0), -2);
        Due.due("elsewhere: no deep, too", x.elsewhere(0, row, 1), -2);
        int[][] wrong = {{-1, 0, 0}, {3, 0, 0}, {0, -1, 0}, {0, 2, 0}, {0, 0, -1}, {0, 0, 2}};
        for (int[] w : wrong) Due.due("elsewhere: not as told", x.elsewhere(w[0], w[1], w[2]), ThinLine.NONE);
    }

    private static void deepest() {
        ThinLine x = new ThinLine();
        int row = Due.made(x, 0, 0, "shine 950 if colour >= 10 and colour <= 29; shine 1000", 1);
        int flat = Due.made(x, 0, 0, "shine 1000", 1);
        Due.curve(x, "gap 140 159");
        Due.curve(x, "gap 100 299");
        Due.due("deepest: where", x.deepest(0, row, 0), 10);
        Due.due("deepest: its score", x.deepest(0, row, 1), 50000);
        Due.due("deepest: the first of several", x.deepest(0, flat, 0), 0);
        Due.due("deepest: of several", x.deepest(0, flat, 1), 0);
        for (int c = 280; c < 300; c++) x.raw(flat, c, 900);
        Due.due("deepest: the last place", x.deepest(0, flat, 0), 280);
        for (int c = 280; c < 300; c++) x.raw(flat, c, 1000);
        Due.due("deepest: no place", x.deepest(1, flat, 0), -2000000000);
        Due.due("deepest: no place, no score", x.deepest(1, flat, 1), -2000000000);
        for (int c = 140; c < 160; c++) x.raw(row, c, -1000000);
        Due.due("deepest: its own has no deep", x.deepest(0, row, 0), 10);
        for (int c = 0; c < 140; c++) x.raw(flat, c, -1000000);
        Due.due("deepest: the first with a deep", x.deepest(0, flat, 0), 160);
        int[][] wrong = {{-1, 0, 0}, {2, 0, 0}, {0, -1, 0}, {0, 2, 0}, {0, 0, -1}, {0, 0, 2}};
        for (int[] w : wrong) Due.due("deepest: not as told", x.deepest(w[0], w[1], w[2]), -2100000000);
    }

    private static void drawn() {
        ThinLine x = new ThinLine();
        Due.law(x, "shine 1000; eats 0 1000");
        x.line(0, 150, 400);
        x.row(0, 0);
        x.make(0, 0, 0, 0, 299);
        x.row(1, 0);
        for (int c = 0; c < 300; c++) x.raw(1, c, 5);
        Due.curve(x, "gap 140 159");
        Due.curve(x, "skip colour < 300");
        Due.due("drawn: the row's own", x.deep(0, 0, 2), 20000);
        Due.due("drawn: without what is eaten", x.drawn(0, 0, 0, 3, 50), 0);
        Due.due("drawn: not below", x.drawn(0, 0, 1, 3, 50), 50);
        Due.due("drawn: once", x.drawn(0, 0, 1, Integer.MAX_VALUE, 1), 1);
        Due.due("drawn: seed 0", x.drawn(0, 0, 1, 0, 1), 1);
        // the SLIP makes the ROW's line shallower, and no drawn one deeper
        x.slip(0, 140, 159, -21);
        Due.due("drawn: slips are the row's alone", x.drawn(0, 0, 0, 3, 7), 7);
        x.anew(0, 21);
        Due.due("drawn: slips are the row's alone, too", x.drawn(0, 0, 0, 3, 7), 0);
        Due.due("drawn: no deep", x.drawn(0, 1, 0, 3, 7), -2);
        Due.due("drawn: the row is as it was", x.read(0, 150), 600 - 21);
        int[][] wrong = {{-1, 0, 0, 0, 1}, {1, 0, 0, 0, 1}, {0, -1, 0, 0, 1}, {0, 2, 0, 0, 1}, {0, 0, -1, 0, 1}, {0, 0, 2, 0, 1},
            {0, 0, 0, -1, 1}, {0, 0, 0, 0, 0}, {0, 0, 0, 0, 51}};
        for (int[] w : wrong) Due.due("drawn: not as told", x.drawn(w[0], w[1], w[2], w[3], w[4]), ThinLine.NONE);
    }

    private static void drawnGoesOn() {
        ThinLine x = new ThinLine();
        int row = Due.made(x, 0, 0, "shine 1000; noise 500", 4711);
        Due.curve(x, "bends 3; gap 145 155");
        // all COLOURS come by number even if the ROW has none there
        x.raw(row, 150, -1000000);
        int together = 0;
        long seed = 99;
        for (int draw = 0; draw < 8; draw++) {
            together += x.drawn(0, 0, row, (int) seed, 1);
            for (int c = 0; c < 300; c++) seed = (seed * 1103515245L + 12345) % 2147483648L;
        }
        Due.due("drawn: one behind the other", x.drawn(0, 0, row, 99, 8), together);
        Due.due("drawn: neither none nor all", together > 0 && together < 8, true);
    }

    /** Four COLOURS: three knots of a CURVE of one bend, and the gap. */
    private static ThinLine fourColours() {
        ThinLine x = new ThinLine();
        x.row(0, 0);
        x.raw(0, 0, 1490);
        x.raw(0, 149, 0);
        x.raw(0, 299, 1500);
        x.raw(0, 200, 480);
        Due.curve(x, "bends 5; wide 0; gap 200 200");
        return x;
    }

    private static void bent() {
        ThinLine x = fourColours();
        Due.due("bent: once", x.bent(0, 0, 1), 30000);
        // height at 200: 1490 and 10 * 200 by 299; noise: 1494 by 3
        Due.due("bent: never", x.bent(0, 0, 0), 1016000 / 498);
        Due.due("bent: its own", x.bent(0, 0, 5), x.deep(0, 0, 2));
        Due.due("bent: forty times", x.bent(0, 0, 40) > -1000000000, true);
        Due.due("bent: as it was", x.deep(0, 0, 2), 30000);
        int[][] wrong = {{-1, 0, 0}, {1, 0, 0}, {0, -1, 0}, {0, 1, 0}, {0, 0, -1}, {0, 0, 41}};
        for (int[] w : wrong) Due.due("bent: not as told", x.bent(w[0], w[1], w[2]), -2000000000);
        x.raw(0, 200, -1000000);
        Due.due("bent: no deep", x.bent(0, 0, 1), -1000000000);
    }

    private static void best() {
        ThinLine x = fourColours();
        Due.due("best: the bends", x.best(0, 0, 0, 0), 1);
        Due.due("best: the cost", x.best(0, 0, 0, 1), 0);
        Due.due("best: bends cost", x.best(0, 0, 2231, 0), 1);
        Due.due("best: so much", x.best(0, 0, 2231, 1), 2231);
        // 1494 * 1494 by 1000, downwards; of several the least
        Due.due("best: bends cost as much", x.best(0, 0, 2232, 0), 0);
        Due.due("best: straight", x.best(0, 0, 99999, 1), 2232);
        int[][] wrong = {{-1, 0, 0, 0}, {1, 0, 0, 0}, {0, -1, 0, 0}, {0, 1, 0, 0}, {0, 0, -1, 0}, {0, 0, 100000, 0}, {0, 0, 0, -1}, {0, 0, 0, 2}};
        for (int[] w : wrong) Due.due("best: not as told", x.best(w[0], w[1], w[2], w[3]), ThinLine.NONE);
        // a CURVE of one bend alone has a knot at 149
        x.raw(0, 0, -1000000);
        x.raw(0, 299, -1000000);
        Due.due("best: not without a curve", x.best(0, 0, 5, 0), 1);
        Due.due("best: not without a curve, the cost", x.best(0, 0, 5, 1), 5);
        x.raw(0, 149, -1000000);
        Due.due("best: no curve", x.best(0, 0, 0, 0), -2);
        bestRounds();
    }

    private static void bestRounds() {
        ThinLine x = new ThinLine();
        x.row(0, 0);
        Due.curve(x, "wide 0; gap 150 150");
        // a COLOUR that is no knot of any CURVE, and others: 961 and 36 and 1 and 1
        int[][] left = {{0, 0}, {299, 0}, {1, 31}, {2, 6}, {3, 1}, {4, 1}};
        for (int[] l : left) x.raw(0, l[0], l[1]);
        Due.due("best: downwards", x.best(0, 0, 0, 1), 0);
        x.raw(0, 5, -1);
        Due.due("best: a thousand", x.best(0, 0, 0, 1), 1);
        // only forty bends have knots at 7, 14 and 21
        x = new ThinLine();
        x.row(0, 0);
        Due.curve(x, "wide 0; gap 150 150");
        x.raw(0, 0, 0);
        x.raw(0, 299, 0);
        x.raw(0, 7, 90000);
        x.raw(0, 14, -90000);
        x.raw(0, 21, 90000);
        Due.due("best: forty bends", x.best(0, 0, 0, 0), 40);
        Due.due("best: forty bends, the cost", x.best(0, 0, 0, 1), 0);
    }

    private static void taken() {
        ThinLine x = new ThinLine();
        int row = Due.made(x, 0, 0, "shine 1000", 1);
        Due.curve(x, "gap 140 159");
        Due.due("taken: nothing", x.taken(0, row, 100, 5), 0);
        Due.due("taken: of the narrowest", x.taken(0, row, 9999, 1), 0);
        x.row(0, 0);
        x.raw(1, 149, 1000);
        x.raw(1, 150, 1000);
        Due.curve(x, "bends 1; wide 1; gap 150 150");
        // put in: 100 in the gap, 50 at the knot
        Due.due("taken: half", x.taken(1, 1, 100, 2), 50);
        Due.due("taken: downwards", x.taken(1, 1, 99, 2), 49);
        Due.due("taken: as it was", x.deep(1, 1, 0), 0);
        // the middle of 150 and 151 is 150: 9 and 6 are put in, 7 in the mean; at the knot 6
        Due.curve(x, "bends 1; wide 1; gap 150 151");
        x.raw(1, 151, 1000);
        Due.due("taken: the middle", x.taken(2, 1, 9, 3), 7 - (7 - 6));
        x.raw(1, 150, -1000000);
        Due.due("taken: where there is a number", x.taken(2, 1, 9, 3), 6 - 0);
        Due.due("taken: as little as can be", x.taken(0, row, 1, 1), 0);
        x.raw(row, 150, 980);
        Due.due("taken: by how much more", x.taken(0, row, 2000, 1), 0);
        x.raw(row, 150, 1000);
        int[][] wrong = {{-1, 0, 1, 1}, {3, 0, 1, 1}, {0, -1, 1, 1}, {0, 2, 1, 1}, {0, 0, 0, 1}, {0, 0, 10000, 1}, {0, 0, 1, 0}, {0, 0, 1, 100}};
        for (int[] w : wrong) Due.due("taken: not as told", x.taken(w[0], w[1], w[2], w[3]), -2000000);
        x.raw(1, 151, -1000000);
        Due.due("taken: no deep", x.taken(2, 1, 9, 3), -1000000);
        Due.curve(x, "gap 0 0");
        Due.due("taken: at the first colour", x.taken(3, row, 50, 1), 0);
    }

    private static void apart() {
        ThinLine x = new ThinLine();
        Due.made(x, 0, 0, DIP, 1);
        Due.made(x, 0, 0, "shine 1000", 1);
        Due.made(x, 1, 0, "shine 900 if colour >= 10 and colour <= 29; shine 1000", 1);
        x.row(0, 0);
        Due.curve(x, "gap 140 159");
        Due.curve(x, "gap 10 29");
        Due.curve(x, "gap 140 159");
        Due.due("apart: two rows", x.apart(0, 1, 100000), 2);
        Due.due("apart: above both", x.apart(0, 1, 100001), 0);
        Due.due("apart: below both", x.apart(0, 1, -999999), 0);
        Due.due("apart: alike", x.apart(0, 2, 1), 0);
        int[][] wrong = {{0, 0, 0}, {-1, 0, 0}, {0, 3, 0}, {3, 0, 0}, {0, -1, 0}, {0, 1, 1000000}, {0, 1, -1000000}};
        for (int[] w : wrong) Due.due("apart: not as told", x.apart(w[0], w[1], w[2]), ThinLine.NONE);
        Due.due("apart: the greatest bar", x.apart(0, 1, 999999), 0);
    }
}
