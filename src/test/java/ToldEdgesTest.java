/** Terms, part I, and promises 2 to 8, 40 and 44 to 46: what is told, as much as there can be of it, and IMAGES. */
public final class ToldEdgesTest {
    private static final int NOTHING = -1000000;
    private static final int WRONG = -2000000;

    public static void main(String[] args) {
        weeksGoOn();
        knownFromNow();
        twentyFourRows();
        rawIsANumberOrNothing();
        numbersAreCounted();
        fortySlips();
        slipsGoOverColours();
        readIsNotHeld();
        slipsAsToldByNow();
        sixtyLines();
        eachColourOnce();
        toldWords();
        theTape();
        imagesOfNothing();
        imagesKeepWhatIsFull();
        textsStay();
        imagesAreApart();
        backInTime();
        imagesKeepEachRow();
        imagesKeepTheTapesBytes();
        Due.end();
    }

    private static void weeksGoOn() {
        ThinLine x = new ThinLine();
        Due.due("now at first", x.count(0), 0);
        for (int week = 0; week < 399; week += 57) {
            Due.due("clock: " + week, x.clock(week), true);
            Due.due("clock: one less than " + week, x.clock(week - 1), false);
            Due.due("clock: stays at " + week, x.count(0), week);
            Due.due("clock: its own, " + week, x.clock(week), true);
            Due.due("clock: one more than " + week, x.clock(week + 1), true);
            Due.due("clock: back to " + week, x.clock(week), false);
            Due.due("clock: one more stays", x.count(0), week + 1);
        }
        Due.due("clock: the last", x.clock(399), true);
        for (int no : new int[] {400, 398, 0, -1, Integer.MIN_VALUE, Integer.MAX_VALUE}) Due.due("clock(" + no + ")", x.clock(no), false);
        Due.due("clock: the last, again", x.clock(399), true);
        Due.due("clock: it is the last", x.count(0), 399);
    }

    private static void knownFromNow() {
        ThinLine x = new ThinLine();
        Due.curve(x, "wide 3");
        Due.law(x, "shine 1000");
        int[] weeks = {0, 1, 200, 399};
        for (int i = 0; i < weeks.length; i++) {
            x.clock(weeks[i]);
            x.row(0, 0);
        }
        // numbers that come later do not make it KNOWN later
        for (int i = 0; i < weeks.length; i++) x.make(0, i, 0, 0, 299);
        int[][] due = {{0, 1}, {1, 2}, {2, 2}, {199, 2}, {200, 3}, {201, 3}, {398, 3}, {399, 4}};
        for (int[] d : due) Due.due("rows known in " + d[0], x.together(0, 1, d[0], 2), d[1]);
    }

    private static void twentyFourRows() {
        ThinLine x = new ThinLine();
        for (int i = 0; i < 24; i++) {
            Due.due("not there yet", x.read(i, 0), WRONG);
            Due.due("row " + i, x.row(i % 4, i % 2 == 0 ? 0 : 999), i);
            Due.due("there, with nothing", x.read(i, 0), NOTHING);
        }
        for (int i = 0; i < 3; i++) Due.due("row 24", x.row(0, 0), ThinLine.NONE);
        Due.due("rows", x.count(1), 24);
        Due.due("the last row", x.raw(23, 299, 5), NOTHING);
        Due.due("no row 24", x.raw(24, 299, 5), WRONG);
        // HOUR and GLASS as they were told
        Due.law(x, "shine hour * 10 + glass");
        for (int i = 20; i < 24; i++) {
            x.make(0, i, 0, 7, 7);
            Due.due("hour and glass of " + i, x.read(i, 7), (i % 2 == 0 ? 0 : 9990) + i % 4);
        }
    }

    private static void rawIsANumberOrNothing() {
        ThinLine x = new ThinLine();
        x.row(0, 0);
        int[] asTold = {100000, 99999, 0, -1, -99999, -100000};
        int[] not = {100001, -100001, 999999, 1000000, -999999, -1000001, Integer.MAX_VALUE, Integer.MIN_VALUE};
        for (int colour : new int[] {0, 1, 298, 299}) {
            int before = NOTHING;
            for (int n : asTold) {
                Due.due("raw at " + colour + ": " + n, x.raw(0, colour, n), before);
                for (int no : not) Due.due("raw at " + colour + ": " + no, x.raw(0, colour, no), WRONG);
                Due.due("raw at " + colour + " is still " + n, x.read(0, colour), n);
                before = n;
            }
            Due.due("raw becomes nothing", x.raw(0, colour, NOTHING), -100000);
            Due.due("raw is nothing", x.read(0, colour), NOTHING);
            Due.due("nothing stays nothing", x.raw(0, colour, NOTHING), NOTHING);
            Due.due("raw refused where nothing is", x.raw(0, colour, 100001), WRONG);
            Due.due("nothing is there still", x.read(0, colour), NOTHING);
        }
    }

    private static void numbersAreCounted() {
        ThinLine x = new ThinLine();
        x.row(0, 0);
        x.row(1, 0);
        Due.law(x, "shine 5");
        int[][] steps = {
            // row, COLOUR, RAW, numbers in all ROWS
            {0, 0, 5, 1}, {0, 0, 6, 1}, {0, 1, NOTHING, 1}, {1, 0, 0, 2}, {1, 0, 100001, 2}, {0, 300, 5, 2}, {2, 0, 5, 2}, {0, 0, NOTHING, 1},
            {0, 0, NOTHING, 1}, {1, 0, NOTHING, 0}};
        for (int[] s : steps) {
            x.raw(s[0], s[1], s[2]);
            Due.due("numbers behind " + Calls.spell("raw", s[0], s[1], s[2]), x.count(8), s[3]);
        }
        x.raw(0, 20, 1);
        x.make(0, 0, 0, 10, 19);
        Due.due("numbers: ten are made", x.count(8), 11);
        x.make(0, 0, 0, 11, 20);
        Due.due("numbers: made over others", x.count(8), 11);
        x.make(0, 0, 0, 20, 10);
        Due.due("numbers: none made", x.count(8), 11);
        x.make(0, 0, 0, 0, 299);
        x.make(0, 1, 0, 0, 299);
        Due.due("numbers: all", x.count(8), 600);
    }

    private static void fortySlips() {
        ThinLine x = new ThinLine();
        for (int i = 0; i < 40; i++) {
            Due.due("not there yet", x.anew(i, 0), WRONG);
            Due.due("slip " + i, x.slip(i % 4, i, i, i), i);
        }
        for (int i = 0; i < 3; i++) Due.due("slip 40", x.slip(0, 0, 0, 0), ThinLine.NONE);
        Due.due("slips", x.count(2), 40);
        Due.due("no slip 40", x.anew(40, 0), WRONG);
        for (int i = 0; i < 40; i++) Due.due("slip " + i + " is as it was", x.anew(i, -i), i);
        for (int no : new int[] {10000, -10000, Integer.MIN_VALUE, Integer.MAX_VALUE}) Due.due("anew: " + no, x.anew(39, no), WRONG);
        Due.due("anew: most", x.anew(39, 9999), -39);
        Due.due("anew: least", x.anew(39, -9999), 9999);
        Due.due("anew: as it is", x.anew(39, -9999), -9999);
        Due.due("anew: the one ahead stays", x.anew(38, 0), -38);
    }

    private static void slipsGoOverColours() {
        int[][] spans = {{0, 0}, {299, 299}, {0, 299}, {100, 101}, {0, 1}, {298, 299}};
        for (int[] s : spans) {
            ThinLine x = new ThinLine();
            Due.law(x, "shine 1000");
            x.row(0, 0);
            x.row(3, 0);
            x.make(0, 0, 0, 0, 299);
            x.make(0, 1, 0, 0, 299);
            x.slip(3, s[0], s[1], 7);
            for (int colour : new int[] {s[0] - 1, s[0], s[1], s[1] + 1}) {
                boolean over = colour >= s[0] && colour <= s[1];
                int due = colour < 0 || colour > 299 ? WRONG : over ? 993 : 1000;
                Due.due("read at " + colour + " of a slip from " + s[0] + " to " + s[1], x.read(1, colour), due);
                Due.due("read of another glass", x.read(0, colour), due == WRONG ? WRONG : 1000);
            }
        }
    }

    private static void readIsNotHeld() {
        for (int sign = -1; sign <= 1; sign += 2) {
            ThinLine x = new ThinLine();
            x.row(0, 0);
            x.raw(0, 5, sign * 100000);
            for (int i = 0; i < 40; i++) x.slip(0, 5, 5, -sign * 9999);
            Due.due("read, all slips one way", x.read(0, 5), sign * (100000 + 40 * 9999));
            Due.due("raw is what was told", x.raw(0, 5, 0), sign * 100000);
            Due.due("read of nothing but slips", x.read(0, 5), sign * 40 * 9999);
            x.raw(0, 5, NOTHING);
            Due.due("nothing, and slips", x.read(0, 5), NOTHING);
        }
    }

    private static void slipsAsToldByNow() {
        ThinLine x = new ThinLine();
        x.row(0, 0);
        x.raw(0, 5, 100);
        Due.due("no slips", x.read(0, 5), 100);
        x.slip(0, 5, 5, 30);
        Due.due("a slip told behind raw", x.read(0, 5), 70);
        x.anew(0, -30);
        Due.due("told anew", x.read(0, 5), 130);
        x.anew(0, 10000);
        x.anew(1, 5);
        Due.due("refused anew", x.read(0, 5), 130);
        x.row(0, 1);
        x.raw(1, 5, 100);
        Due.due("a row told behind the slip", x.read(1, 5), 130);
    }

    private static void sixtyLines() {
        ThinLine x = new ThinLine();
        for (int i = 0; i < 60; i++) Due.due("line " + i, x.line(i % 12, i, i == 0 ? 1 : 1000), i + 1);
        for (int stuff = 0; stuff < 12; stuff++) Due.due("line 60 of " + stuff, x.line(stuff, 299, 1), ThinLine.NONE);
        Due.due("lines", x.count(3), 60);
        // none came: nothing is eaten at 299
        Due.law(x, "shine 1000; eats 0 1000; eats 11 1000");
        x.row(0, 0);
        x.make(0, 0, 0, 0, 299);
        Due.due("nothing is eaten", x.read(0, 299), 1000);
        Due.due("depth 1", x.read(0, 0), 999);
        Due.due("depth 1000", x.read(0, 59), 0);
        Due.due("of a stuff that does not eat", x.read(0, 58), 1000);
    }

    private static void eachColourOnce() {
        ThinLine x = new ThinLine();
        Due.law(x, "shine 1000; eats 3 1000");
        x.row(0, 0);
        for (int colour : new int[] {0, 150, 299}) {
            int lines = x.count(3);
            Due.due("a line", x.line(3, colour, 500), lines + 1);
            for (int depth : new int[] {500, 499, 1, 1000}) Due.due("the colour once more", x.line(3, colour, depth), ThinLine.NONE);
            Due.due("of the stuff ahead", x.line(2, colour, 1000), lines + 2);
            Due.due("of the stuff behind", x.line(4, colour, 1000), lines + 3);
            x.make(0, 0, 0, colour, colour);
            Due.due("its depth is as it was", x.read(0, colour), 500);
        }
        Due.due("lines", x.count(3), 9);
    }

    private static void toldWords() {
        ThinLine x = new ThinLine();
        Due.way(x, "gives light");
        Due.way(x, "gives heat");
        Due.way(x, "gives storm");
        Due.way(x, "gives fall");
        for (int what = 0; what < 4; what++) {
            Due.due("at first", x.gives(what), 0);
            Due.due("the most", x.told(what, 9999), 0);
            for (int no : new int[] {10000, -1, Integer.MAX_VALUE, Integer.MIN_VALUE}) Due.due("told " + no, x.told(what, no), ThinLine.NONE);
            Due.due("the most is there", x.gives(what), 9999);
            Due.due("the least", x.told(what, 0), 9999);
            Due.due("the least is there", x.gives(what), 0);
            x.told(what, what + 1);
        }
        for (int what = 0; what < 4; what++) Due.due("each its own", x.gives(what), what + 1);
        Due.due("no fifth", x.told(4, 0), ThinLine.NONE);
        Due.due("none below", x.told(-1, 0), ThinLine.NONE);
    }

    private static void theTape() {
        ThinLine x = new ThinLine();
        Due.due("end of an empty tape", x.end(0), 0);
        Due.due("end of an empty tape, more", x.end(1), ThinLine.NONE);
        Due.due("end below 0", x.end(-1), ThinLine.NONE);
        // each number the highest byte first, the numbers one behind another
        x.feed(0x67697665, 0x73203132, 0x33202b20, 0x37777777, 0x77777777);
        for (int n : new int[] {20, 19, 14, 13}) {
            Due.due("as many as there are, or fewer", x.end(n), n);
            Due.due("one more than there are", x.end(n + 1), ThinLine.NONE);
            Due.due("so many are there", x.count(9), n);
        }
        Due.due("gives 123 + 7", x.text(2), 0);
        Due.due("its bytes", x.gives(0), 130);
        // what was cut off does not come back
        x.feed(0x67697665, 0x73203939, 0x39393939, 0x39393939, 0x39393939);
        x.end(7);
        x.feed(0x20202020, 0x20202020, 0x20202020, 0x20202020, 0x20202b31);
        Due.due("behind what is left", x.text(2), 1);
        Due.due("9 + 1", x.gives(1), 10);
        x.feed(-1, -1, -1, -1, -1);
        x.end(0);
        Due.due("nothing is left", x.text(2), -3);
    }

    private static void imagesOfNothing() {
        ThinLine x = new ThinLine();
        for (int k : new int[] {-1, 0, 1, 2, 3, 4, Integer.MIN_VALUE, Integer.MAX_VALUE}) Due.due("back(" + k + ") before", x.back(k), ThinLine.NONE);
        for (int k : new int[] {-1, 4, Integer.MIN_VALUE, Integer.MAX_VALUE}) Due.due("image(" + k + ")", x.image(k), ThinLine.NONE);
        Due.due("an image of nothing", x.image(3), 0);
        for (int k = 0; k < 3; k++) Due.due("the others were never made", x.back(k), ThinLine.NONE);
        Due.due("back(4)", x.back(4), ThinLine.NONE);
        x.row(0, 0);
        x.clock(9);
        x.told(0, 9);
        Due.due("back to nothing", x.back(3), 0);
        for (int what = 0; what <= 10; what++) Due.due("nothing: count(" + what + ")", x.count(what), 0);
        Due.due("nothing: told", x.told(0, 0), 0);
        Due.due("the first row again", x.row(0, 0), 0);
        // what is refused makes no image and goes to none
        Due.due("one row", x.image(0), 1);
        x.row(0, 0);
        x.image(4);
        x.image(-1);
        x.back(1);
        x.back(4);
        Due.due("two rows stay", x.count(1), 2);
        Due.due("image 0 is as it was made", x.back(0), 1);
    }

    private static void imagesKeepWhatIsFull() {
        ThinLine x = new ThinLine();
        Due.curve(x, "wide 3");
        x.image(0);
        for (int i = 0; i < 24; i++) x.row(0, 0);
        for (int i = 0; i < 40; i++) x.slip(0, 0, 0, i);
        for (int i = 0; i < 60; i++) x.line(0, i, 1);
        for (int i = 0; i < 10; i++) x.candidate(0, 1 + i);
        for (int i = 0; i < 8; i++) x.house(0, i, 1);
        for (int i = 0; i < 20; i++) x.feed(0, 0, 0, 0, 0);
        Due.due("an image of all that can be", x.image(1), 24);
        int[] full = {24, 40, 60, 10, 8, 400};
        int[] whats = {1, 2, 3, 7, 10, 9};
        Due.due("back to nothing", x.back(0), 0);
        for (int what : whats) Due.due("nothing: " + what, x.count(what), 0);
        Due.due("there is room for a row", x.row(3, 7), 0);
        Due.due("there is room for a slip", x.slip(3, 7, 7, 7), 0);
        Due.due("there is room for a line", x.line(0, 0, 7), 1);
        Due.due("there is room for a candidate", x.candidate(3, 7), 0);
        Due.due("there is room for a house", x.house(0, 7, 7), 0);
        Due.due("there is room on the tape", x.feed(0, 0, 0, 0, 0), 20);
        Due.due("back to all", x.back(1), 24);
        for (int i = 0; i < whats.length; i++) Due.due("all: " + whats[i], x.count(whats[i]), full[i]);
        Due.due("full of rows", x.row(0, 0), ThinLine.NONE);
        Due.due("full of slips", x.slip(0, 0, 0, 0), ThinLine.NONE);
        Due.due("full of lines", x.line(1, 1, 1), ThinLine.NONE);
        Due.due("full of candidates", x.candidate(0, 1), ThinLine.NONE);
        Due.due("full of houses", x.house(0, 0, 1), ThinLine.NONE);
        Due.due("full of bytes", x.feed(0, 0, 0, 0, 0), ThinLine.NONE);
        for (int i = 0; i < 40; i += 13) Due.due("the slips are those", x.anew(i, 0), i);
    }

    private static void textsStay() {
        ThinLine x = new ThinLine();
        x.image(2);
        for (int i = 0; i < 6; i++) Due.law(x, "shine " + i);
        for (int i = 0; i < 8; i++) Due.curve(x, "bends " + i);
        for (int i = 0; i < 8; i++) Due.way(x, "gives " + i);
        x.back(2);
        Due.due("laws stay", x.count(4), 6);
        Due.due("curves stay", x.count(5), 8);
        Due.due("ways stay", x.count(6), 8);
        for (int sort = 0; sort < 3; sort++) Due.due("and are as many as can be", x.text(sort), ThinLine.NONE);
        x.row(0, 0);
        x.make(5, 0, 0, 0, 299);
        Due.due("a law that came behind the image", x.read(0, 0), 5);
        // nine knots, but for that at 149
        Due.due("a curve that came behind the image", x.deep(7, 0, 3), 8);
        Due.due("a way that came behind the image", x.gives(7), 7);
    }

    private static void imagesAreApart() {
        ThinLine x = new ThinLine();
        x.row(0, 0);
        for (int k = 0; k < 4; k++) {
            x.raw(0, 5, 100 + k);
            Due.due("image " + k, x.image(k), 1);
        }
        x.raw(0, 5, 99);
        for (int k : new int[] {3, 0, 2, 1, 1, 3}) {
            Due.due("back " + k, x.back(k), 1);
            Due.due("as in image " + k, x.read(0, 5), 100 + k);
            x.raw(0, 5, -1);
            x.row(0, 0);
        }
        // made anew, an image is the new one alone
        x.image(2);
        x.back(1);
        Due.due("the one is as it was", x.read(0, 5), 101);
        Due.due("the other is the new one", x.back(2), 2);
        Due.due("as in the new one", x.read(0, 5), -1);
    }

    private static void backInTime() {
        ThinLine x = new ThinLine();
        Due.curve(x, "wide 3");
        Due.law(x, "shine 1000");
        x.clock(10);
        x.image(0);
        x.clock(399);
        Due.due("not back by the clock", x.clock(10), false);
        x.back(0);
        Due.due("now is as it was", x.count(0), 10);
        Due.due("not ahead of it", x.clock(9), false);
        Due.due("its own", x.clock(10), true);
        x.make(0, x.row(0, 0), 0, 0, 299);
        Due.due("known from then", x.together(0, 1, 10, 2), 1);
        Due.due("not before", x.together(0, 1, 9, 2), 0);
        Due.tape(x, "gives 77");
        x.image(1);
        Due.due("the tape is a way", x.text(2), 0);
        x.back(1);
        Due.due("the tape is as it was", x.count(9), 8);
        Due.due("and a way once more", x.text(2), 1);
        Due.due("of the same bytes", x.gives(1), 77);
    }

    private static void imagesKeepEachRow() {
        ThinLine x = new ThinLine();
        Due.law(x, "shine glass * 1000 + hour");
        Due.curve(x, "bends 0; wide 0; gap 150 150");
        x.image(0);
        x.clock(3);
        x.row(1, 5);
        x.image(1);
        x.back(0);
        x.clock(7);
        x.row(2, 9);
        x.row(3, 11);
        x.image(2);
        int[][] due = {
            // image, rows, RAW made for the first ROW, the WEEK from which it is KNOWN
            {1, 1, 1005, 3}, {2, 2, 2009, 7}, {1, 1, 1005, 3}};
        for (int[] d : due) {
            Due.due("back(" + d[0] + ")", x.back(d[0]), d[1]);
            x.make(0, 0, 0, 0, 299);
            Due.due("its glass and hour", x.read(0, 0), d[2]);
            Due.due("not known before", x.together(0, 15, d[3] - 1, 2), 0);
            Due.due("known from then", x.together(0, 15, d[3], 2), 1);
        }
    }

    private static void imagesKeepTheTapesBytes() {
        ThinLine x = new ThinLine();
        Due.tape(x, "gives 77 ");
        x.image(1);
        x.end(0);
        Due.tape(x, "gives 88888888888888888888888888");
        x.image(2);
        Due.due("back to nine", x.back(1), 0);
        Due.due("nine bytes", x.count(9), 9);
        Due.tape(x, "+ 1");
        Due.due("a way of these", x.text(2), 0);
        Due.due("the bytes are those", x.gives(0), 78);
        x.back(2);
        Due.due("32 bytes", x.count(9), 32);
        x.end(8);
        Due.due("a way of the others", x.text(2), 1);
        Due.due("the bytes are the others", x.gives(1), 88);
    }
}
