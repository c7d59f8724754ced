/** Promises 22, 23 and 28 to 31: STUFFS, the RIPPLE SOUGHT and SLIPS that weigh. */
public final class StuffTest {
    public static void main(String[] args) {
        stuff();
        amounts();
        likeliest();
        ripple();
        smooth();
        without();
        weightiest();
        Due.end();
    }

    /** READ is the straight line of 1000 but at 150, in the gap, and at 20. */
    private static ThinLine straight() {
        ThinLine x = new ThinLine();
        x.row(0, 0);
        Due.curve(x, CurveTest.STRAIGHT);
        x.raw(0, 0, 1000);
        x.raw(0, 299, 1000);
        x.raw(0, 150, 900);
        x.raw(0, 20, 950);
        x.raw(0, 30, 1000);
        return x;
    }

    private static void stuff() {
        ThinLine x = straight();
        x.line(2, 150, 500);
        x.line(2, 20, 500);
        x.line(2, 30, 100);
        x.line(2, 40, 100);
        x.line(3, 30, 1);
        Due.due("stuff: amount", x.stuff(0, 0, 2, 0), 200);
        Due.due("stuff: else, where there are numbers", x.stuff(0, 0, 2, 1), 2);
        Due.due("stuff: there, just so", x.stuff(0, 0, 2, 2), 1);
        // noise 13; (13 + 50) * 1000 by 500 and 13 * 1000 by 100
        Due.due("stuff: bound", x.stuff(0, 0, 2, 3), 126);
        x.raw(0, 20, 951);
        Due.due("stuff: not there", x.stuff(0, 0, 2, 2), 0);
        x.raw(0, 20, 950);
        Due.due("stuff: no amount without lines in the gap", x.stuff(0, 0, 3, 0), ThinLine.NONE);
        Due.due("stuff: else without an amount", x.stuff(0, 0, 3, 1), 1);
        Due.due("stuff: there without an amount", x.stuff(0, 0, 3, 2), 0);
        Due.due("stuff: bound without an amount", x.stuff(0, 0, 3, 3), 13000);
        Due.due("stuff: no lines", x.stuff(0, 0, 11, 0), ThinLine.NONE);
        Due.due("stuff: no else", x.stuff(0, 0, 11, 1), 0);
        Due.due("stuff: no bound without else", x.stuff(0, 0, 11, 3), ThinLine.NONE);
        x.raw(0, 30, 2000);
        Due.due("stuff: bound, 0 at least", x.stuff(0, 0, 2, 3), 0);
        int[][] wrong = {{-1, 0, 0, 0}, {1, 0, 0, 0}, {0, -1, 0, 0}, {0, 1, 0, 0}, {0, 0, -1, 0}, {0, 0, 12, 0}, {0, 0, 0, -1}, {0, 0, 0, 4}};
        for (int[] w : wrong) Due.due("stuff: not as told", x.stuff(w[0], w[1], w[2], w[3]), -2);
    }

    private static void amounts() {
        ThinLine x = straight();
        x.line(0, 150, 333);
        x.line(1, 20, 5);
        Due.due("amount: downwards", x.stuff(0, 0, 0, 0), 300);
        Due.curve(x, "bends 0; wide 0; gap 150 152");
        x.raw(0, 151, 900);
        x.line(0, 151, 100);
        x.line(0, 152, 567);
        // two COLOURS of three have a number: 100 * 2 * 1000 by 433
        Due.due("amount: colours with a number", x.stuff(1, 0, 0, 0), 461);
        x.raw(0, 150, 1100);
        x.raw(0, 151, 900);
        Due.due("amount: deep below 1", x.stuff(1, 0, 0, 0), 0);
        Due.due("amount: deep below 1, and no lines", x.stuff(1, 0, 1, 0), ThinLine.NONE);
        x.raw(0, 150, -1000000);
        x.raw(0, 151, -1000000);
        Due.due("amount: no deep", x.stuff(1, 0, 0, 0), ThinLine.NONE);
        Due.due("bound: no deep is needed", x.stuff(1, 0, 1, 3) >= 0, true);
        x.raw(0, 0, -1000000);
        x.raw(0, 299, -1000000);
        Due.due("bound: no curve", x.stuff(1, 0, 1, 3), ThinLine.NONE);
        Due.due("else: no curve is needed", x.stuff(1, 0, 1, 1), 1);
        x = straight();
        x.line(0, 150, 1);
        x.raw(0, 150, 999);
        Due.due("amount: deep 1, depth 1", x.stuff(0, 0, 0, 0), 1000);
        x.raw(0, 0, 100000);
        x.raw(0, 299, 100000);
        x.raw(0, 150, 99000);
        x.raw(0, 20, -100000);
        x.slip(0, 20, 20, 9999);
        // an AMOUNT of 1000000 of 419 is 419000; LEFT is -209999
        x.line(1, 20, 419);
        x.line(1, 150, 1);
        Due.due("there: enough", x.stuff(0, 0, 1, 2), 1);
        x.line(2, 20, 420);
        x.line(2, 150, 1);
        Due.due("there: just not enough", x.stuff(0, 0, 2, 2), 0);
        // an AMOUNT of 0 is there wherever LEFT is not above 0
        x = straight();
        x.raw(0, 150, 1000);
        x.line(0, 150, 10);
        x.line(0, 20, 1000);
        x.line(0, 30, 1000);
        x.line(0, 31, 1000);
        x.raw(0, 31, 1001);
        Due.due("there: an amount of 0", x.stuff(0, 0, 0, 2), 2);
    }

    private static void likeliest() {
        ThinLine x = straight();
        Due.due("likeliest: no lines", x.likeliest(0, 0), -2);
        x.line(9, 20, 500);
        Due.due("likeliest: no amount", x.likeliest(0, 0), -2);
        x.line(7, 150, 500);
        Due.due("likeliest: the only one, without else", x.likeliest(0, 0), 7);
        x.line(8, 150, 500);
        Due.due("likeliest: of several the least", x.likeliest(0, 0), 7);
        x.line(9, 150, 500);
        Due.due("likeliest: one of one", x.likeliest(0, 0), 9);
        x.line(9, 30, 500);
        x.line(8, 20, 400);
        Due.due("likeliest: one of one, not one of two", x.likeliest(0, 0), 8);
        x.line(8, 30, 500);
        Due.due("likeliest: half and half", x.likeliest(0, 0), 8);
        x.raw(0, 31, 0);
        x.raw(0, 32, 0);
        x.line(9, 31, 1);
        x.line(9, 32, 1);
        Due.due("likeliest: three of four", x.likeliest(0, 0), 9);
        x.raw(0, 150, -1000000);
        Due.due("likeliest: no deep", x.likeliest(0, 0), -2);
        int[][] wrong = {{-1, 0}, {1, 0}, {0, -1}, {0, 1}};
        for (int[] w : wrong) Due.due("likeliest: not as told", x.likeliest(w[0], w[1]), ThinLine.NONE);
        x.raw(0, 150, 900);
        x.line(0, 150, 500);
        x.line(0, 31, 500);
        x.line(11, 150, 500);
        x.line(11, 32, 500);
        Due.due("likeliest: the first stuff", x.likeliest(0, 0), 0);
        x.line(0, 30, 500);
        Due.due("likeliest: the last stuff", x.likeliest(0, 0), 11);
    }

    /** READ is 0 but at 10 and 16, and in the gap at 151. */
    private static ThinLine twoPeaks() {
        ThinLine x = new ThinLine();
        x.row(0, 0);
        Due.curve(x, "bends 0; wide 0; gap 151 151");
        x.raw(0, 0, 0);
        x.raw(0, 299, 0);
        x.raw(0, 10, 6);
        x.raw(0, 16, 6);
        x.raw(0, 151, -5);
        return x;
    }

    private static void ripple() {
        ThinLine x = twoPeaks();
        // 3 keeps both away from 0 and 299, as many periods do: 12 * 12 by 2
        Due.due("ripple: of several the least", x.ripple(0, 0, 0), 3);
        Due.due("ripple: its power", x.ripple(0, 0, 1), 72);
        x.raw(0, 10, 7);
        // apart: 49 and 36; together 169 by 2, downwards. 7 is the first to keep all apart
        Due.due("ripple: apart", x.ripple(0, 0, 0), 7);
        Due.due("ripple: power apart", x.ripple(0, 0, 1), 85);
        x.raw(0, 0, -1000000);
        x.raw(0, 299, -1000000);
        Due.due("ripple: no curve", x.ripple(0, 0, 0), ThinLine.NONE);
        Due.due("ripple: no curve, no power", x.ripple(0, 0, 1), ThinLine.NONE);
        int[][] wrong = {{-1, 0, 0}, {1, 0, 0}, {0, -1, 0}, {0, 1, 0}, {0, 0, -1}, {0, 0, 2}};
        for (int[] w : wrong) Due.due("ripple: not as told", x.ripple(w[0], w[1], w[2]), -2);
        int made = Due.made(x, 0, 0, "shine 1000; ripple 97 5000", 5);
        Due.curve(x, "bends 0; wide 50");
        Due.due("ripple: as it was made", x.ripple(1, made, 0), 97);
        int flat = Due.made(x, 0, 0, "shine 1000", 5);
        Due.due("ripple: none", x.ripple(1, flat, 0), 2);
        Due.due("ripple: no power", x.ripple(1, flat, 1), 0);
    }

    private static void smooth() {
        ThinLine x = twoPeaks();
        Due.due("smooth: deep as it is", x.deep(0, 0, 0), 5);
        Due.due("smooth: less the mean of its rest", x.smooth(0, 0), 11);
        // 152 has the rest 2 by 3, as 299
        Due.curve(x, "bends 0; wide 0; gap 151 152");
        x.raw(0, 152, -2);
        Due.due("smooth: each by its rest", x.smooth(1, 0), (11 + 2) / 2);
        x.raw(0, 299, -1000000);
        Due.due("smooth: nothing with its rest", x.smooth(1, 0), (11 + 2) / 2);
        x.raw(0, 151, -1000000);
        x.raw(0, 152, -1000000);
        Due.due("smooth: no deep", x.smooth(1, 0), -1000000);
        int[][] wrong = {{-1, 0}, {2, 0}, {0, -1}, {0, 1}};
        for (int[] w : wrong) Due.due("smooth: not as told", x.smooth(w[0], w[1]), -2000000);
        smoothAtFirst();
    }

    private static void smoothAtFirst() {
        ThinLine x = new ThinLine();
        x.row(0, 0);
        Due.curve(x, "bends 0; wide 0; gap 0 0");
        int[][] read = {{299, 0}, {20, 50}, {40, 50}, {7, -30}, {27, -30}, {0, -10}};
        for (int[] r : read) x.raw(0, r[0], r[1]);
        // 5 is the first to keep the likes together and the others apart; 0 has the rest of 20 and 40
        Due.due("smooth: the period", x.ripple(0, 0, 0), 5);
        Due.due("smooth: the power", x.ripple(0, 0, 1), 5000 + 1800);
        Due.due("smooth: at the first colour", x.smooth(0, 0), 60);
    }

    private static void without() {
        ThinLine x = straight();
        Due.due("without: no slip", x.without(0, 0, 0), -2000000);
        x.slip(0, 150, 150, 30);
        x.slip(0, 0, 299, 500);
        x.slip(1, 150, 150, 70);
        x.slip(0, 140, 150, -200);
        Due.due("without: deep with all", x.deep(0, 0, 0), 100 + 30 - 200);
        Due.due("without: the first", x.without(0, 0, 0), 100 - 200);
        Due.due("without: one over all", x.without(0, 0, 1), 100 + 30 - 200);
        Due.due("without: of another glass", x.without(0, 0, 2), 100 + 30 - 200);
        Due.due("without: the last", x.without(0, 0, 3), 100 + 30);
        Due.due("without: all is as it was", x.deep(0, 0, 0), 100 + 30 - 200);
        int[][] wrong = {{-1, 0, 0}, {1, 0, 0}, {0, -1, 0}, {0, 1, 0}, {0, 0, -1}, {0, 0, 4}};
        for (int[] w : wrong) Due.due("without: not as told", x.without(w[0], w[1], w[2]), -2000000);
        x.raw(0, 150, -1000000);
        Due.due("without: no deep", x.without(0, 0, 0), -1000000);
    }

    private static void weightiest() {
        ThinLine x = straight();
        Due.due("weightiest: no slips", x.weightiest(0, 0), -2);
        x.slip(1, 150, 150, 9999);
        x.slip(0, 0, 299, 9999);
        Due.due("weightiest: none weighs, the least", x.weightiest(0, 0), 0);
        x.slip(0, 150, 150, 30);
        x.slip(0, 150, 150, -30);
        Due.due("weightiest: without sign, the least", x.weightiest(0, 0), 2);
        x.slip(0, 150, 299, -31);
        Due.due("weightiest: at the knot, too", x.weightiest(0, 0), 2);
        x.anew(3, -31);
        Due.due("weightiest: most", x.weightiest(0, 0), 3);
        int[][] wrong = {{-1, 0}, {1, 0}, {0, -1}, {0, 1}};
        for (int[] w : wrong) Due.due("weightiest: not as told", x.weightiest(w[0], w[1]), ThinLine.NONE);
        x.raw(0, 150, -1000000);
        Due.due("weightiest: no deep", x.weightiest(0, 0), -2);
    }
}
