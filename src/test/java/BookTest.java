/** Promises 1 to 8, 40 and 44 to 46: what is told, counted, kept as an IMAGE and gone back to. */
public final class BookTest {
    public static void main(String[] args) {
        aNewObject();
        clock();
        row();
        raw();
        read();
        slip();
        anew();
        line();
        told();
        count();
        image();
        imageKeepsAllButTexts();
        Due.end();
    }

    private static void aNewObject() {
        ThinLine x = new ThinLine();
        for (int what = 0; what <= 10; what++) Due.due("new: count(" + what + ")", x.count(what), 0);
        Due.due("new: read(0, 0)", x.read(0, 0), -2000000);
        Due.due("new: deep(0, 0, 0)", x.deep(0, 0, 0), -2000000000);
        Due.due("new: make", x.make(0, 0, 0, 0, 0), ThinLine.NONE);
        Due.due("new: gives(0)", x.gives(0), ThinLine.NONE);
        Due.due("new: brief(7)", x.brief(7), 7);
        Due.due("new: back(0)", x.back(0), ThinLine.NONE);
        Due.due("NONE", ThinLine.NONE, -1);
    }

    private static void clock() {
        ThinLine x = new ThinLine();
        Due.due("clock: its own", x.clock(0), true);
        Due.due("clock: later", x.clock(5), true);
        Due.due("clock: its own again", x.clock(5), true);
        Due.due("clock: earlier", x.clock(4), false);
        Due.due("clock: below all", x.clock(-1), false);
        Due.due("clock: above all", x.clock(400), false);
        Due.due("clock: as it was", x.count(0), 5);
        Due.due("clock: the last", x.clock(399), true);
        Due.due("clock: behind the last", x.clock(Integer.MAX_VALUE), false);
        Due.due("clock: the last stays", x.count(0), 399);
    }

    private static void row() {
        ThinLine x = new ThinLine();
        int[][] wrong = {{-1, 0}, {4, 0}, {0, -1}, {0, 1000}, {Integer.MIN_VALUE, 0}, {0, Integer.MAX_VALUE}};
        for (int[] w : wrong) Due.due("row(" + w[0] + ", " + w[1] + ")", x.row(w[0], w[1]), ThinLine.NONE);
        Due.due("row: none came", x.count(1), 0);
        for (int i = 0; i < 24; i++) Due.due("row " + i, x.row(i % 4, i == 0 ? 0 : 999), i);
        Due.due("row 24", x.row(0, 0), ThinLine.NONE);
        Due.due("row: as many as can be", x.count(1), 24);
        Due.due("row: nothing at first", x.read(23, 299), -1000000);
    }

    private static void raw() {
        ThinLine x = new ThinLine();
        x.row(0, 0);
        Due.due("raw: first", x.raw(0, 0, 100000), -1000000);
        Due.due("raw: what there was", x.raw(0, 0, -100000), 100000);
        Due.due("raw: becomes nothing", x.raw(0, 0, -1000000), -100000);
        Due.due("raw: nothing there was", x.raw(0, 0, -1000000), -1000000);
        Due.due("raw: no numbers", x.count(8), 0);
        Due.due("raw: the last colour", x.raw(0, 299, 0), -1000000);
        int[][] wrong = {{-1, 0, 1}, {1, 0, 1}, {0, -1, 1}, {0, 300, 1}, {0, 0, 100001}, {0, 0, -100001}, {0, 0, -999999}};
        for (int[] w : wrong) Due.due("raw(" + w[0] + ", " + w[1] + ", " + w[2] + ")", x.raw(w[0], w[1], w[2]), -2000000);
        Due.due("raw: one number", x.count(8), 1);
        Due.due("raw: no other", x.read(0, 0), -1000000);
    }

    private static void read() {
        ThinLine x = new ThinLine();
        x.row(1, 0);
        x.row(2, 0);
        x.slip(1, 10, 20, 7);
        for (int colour : new int[] {9, 10, 20, 21}) {
            x.raw(0, colour, 100);
            x.raw(1, colour, 100);
        }
        Due.due("read: ahead of the slip", x.read(0, 9), 100);
        Due.due("read: its first", x.read(0, 10), 93);
        Due.due("read: its last", x.read(0, 20), 93);
        Due.due("read: behind it", x.read(0, 21), 100);
        Due.due("read: another glass", x.read(1, 10), 100);
        Due.due("read: nothing", x.read(0, 15), -1000000);
        x.slip(1, 20, 299, -3);
        Due.due("read: both", x.read(0, 20), 96);
        x.anew(0, -1000);
        Due.due("read: as it is told by now", x.read(0, 20), 1103);
        int[][] wrong = {{-1, 0}, {2, 0}, {0, -1}, {0, 300}};
        for (int[] w : wrong) Due.due("read(" + w[0] + ", " + w[1] + ")", x.read(w[0], w[1]), -2000000);
    }

    private static void slip() {
        ThinLine x = new ThinLine();
        int[][] wrong = {{-1, 0, 9, 1}, {4, 0, 9, 1}, {0, -1, 9, 1}, {0, 0, 300, 1}, {0, 10, 9, 1}, {0, 0, 9, 10000}, {0, 0, 9, -10000}};
        for (int[] w : wrong) Due.due("slip of " + w[0] + " from " + w[1] + " to " + w[2] + ": " + w[3], x.slip(w[0], w[1], w[2], w[3]), ThinLine.NONE);
        Due.due("slip: widest", x.slip(0, 0, 299, 9999), 0);
        Due.due("slip: of one colour", x.slip(3, 5, 5, -9999), 1);
        for (int i = 2; i < 40; i++) Due.due("slip " + i, x.slip(1, 0, 0, 0), i);
        Due.due("slip 40", x.slip(1, 0, 0, 0), ThinLine.NONE);
        Due.due("slip: how many", x.count(2), 40);
    }

    private static void anew() {
        ThinLine x = new ThinLine();
        Due.due("anew: no slip", x.anew(0, 1), -2000000);
        x.slip(0, 0, 9, 5);
        Due.due("anew: what it was", x.anew(0, 9999), 5);
        Due.due("anew: too much", x.anew(0, 10000), -2000000);
        Due.due("anew: too little", x.anew(0, -10000), -2000000);
        Due.due("anew: below", x.anew(-1, 0), -2000000);
        Due.due("anew: above", x.anew(1, 0), -2000000);
        Due.due("anew: it stayed", x.anew(0, -9999), 9999);
        x.row(0, 0);
        x.raw(0, 9, 1);
        Due.due("anew: it is read", x.read(0, 9), 10000);
    }

    private static void line() {
        ThinLine x = new ThinLine();
        int[][] wrong = {{-1, 0, 1}, {12, 0, 1}, {0, -1, 1}, {0, 300, 1}, {0, 0, 0}, {0, 0, 1001}};
        for (int[] w : wrong) Due.due("line(" + w[0] + ", " + w[1] + ", " + w[2] + ")", x.line(w[0], w[1], w[2]), ThinLine.NONE);
        Due.due("line: the first", x.line(0, 0, 1), 1);
        Due.due("line: the same colour", x.line(0, 0, 2), ThinLine.NONE);
        Due.due("line: of another stuff", x.line(11, 0, 1000), 2);
        Due.due("line: the last colour", x.line(0, 299, 1), 3);
        for (int i = 4; i <= 60; i++) Due.due("line " + i, x.line(5, i, 1), i);
        Due.due("line 61", x.line(6, 0, 1), ThinLine.NONE);
        Due.due("line: how many", x.count(3), 60);
    }

    private static void told() {
        ThinLine x = new ThinLine();
        for (int what = 0; what < 4; what++) {
            Due.due("told: 0 at first", x.told(what, 9999 - what), 0);
            Due.due("told: what it was", x.told(what, 10 + what), 9999 - what);
        }
        Due.due("told: no such", x.told(4, 1), ThinLine.NONE);
        Due.due("told: no such below", x.told(-1, 1), ThinLine.NONE);
        Due.due("told: too much", x.told(0, 10000), ThinLine.NONE);
        Due.due("told: too little", x.told(0, -1), ThinLine.NONE);
        Due.due("told: it stayed", x.told(0, 0), 10);
    }

    private static void count() {
        ThinLine x = new ThinLine();
        x.clock(9);
        for (int i = 0; i < 3; i++) x.row(0, i);
        for (int i = 0; i < 2; i++) x.slip(0, 0, 0, 0);
        x.line(0, 0, 1);
        for (int i = 0; i < 4; i++) Due.law(x, "noise 1");
        for (int i = 0; i < 5; i++) Due.curve(x, "bends 1");
        for (int i = 0; i < 6; i++) Due.way(x, "gives 1");
        for (int i = 0; i < 7; i++) x.candidate(0, 1);
        x.make(0, 1, 0, 100, 107);
        Due.tape(x, "nine byte");
        for (int i = 0; i < 8; i++) x.house(0, 0, 1);
        int[] due = {9, 3, 2, 1, 4, 5, 6, 7, 8, 9, 8};
        for (int what = 0; what <= 10; what++) Due.due("count(" + what + ")", x.count(what), due[what]);
        Due.due("count(-1)", x.count(-1), ThinLine.NONE);
        Due.due("count(11)", x.count(11), ThinLine.NONE);
    }

    private static void image() {
        ThinLine x = new ThinLine();
        Due.due("image(-1)", x.image(-1), ThinLine.NONE);
        Due.due("image(4)", x.image(4), ThinLine.NONE);
        Due.due("back(-1)", x.back(-1), ThinLine.NONE);
        Due.due("back(4)", x.back(4), ThinLine.NONE);
        Due.due("back: never made", x.back(3), ThinLine.NONE);
        Due.due("image: empty", x.image(0), 0);
        x.row(0, 0);
        x.raw(0, 5, 55);
        Due.due("image: one row", x.image(3), 1);
        x.row(0, 0);
        x.raw(0, 5, 66);
        x.raw(1, 5, 77);
        Due.due("back: one row", x.back(3), 1);
        Due.due("back: as it was", x.read(0, 5), 55);
        Due.due("back: not there any more", x.read(1, 5), -2000000);
        Due.due("back: one number", x.count(8), 1);
        x.row(0, 0);
        Due.due("back: a new row has nothing", x.read(1, 5), -1000000);
        x.raw(0, 5, 88);
        Due.due("back: twice", x.back(3), 1);
        Due.due("back: as it was, twice", x.read(0, 5), 55);
        Due.due("back: to another", x.back(0), 0);
        Due.due("back: the other stays", x.back(3), 1);
        Due.due("image: over another", x.image(0), 1);
        Due.due("back: to the new one", x.back(0), 1);
    }

    private static void imageKeepsAllButTexts() {
        ThinLine x = new ThinLine();
        x.clock(3);
        x.slip(0, 0, 299, 1);
        x.line(0, 0, 1);
        x.candidate(0, 5);
        x.told(2, 22);
        Due.way(x, "gives storm + week");
        Due.curve(x, "bends 1");
        x.house(0, 5, 1);
        Due.tape(x, "abc");
        x.image(1);
        x.clock(300);
        x.anew(0, 7);
        x.slip(0, 0, 0, 0);
        x.line(0, 1, 1);
        x.candidate(0, 6);
        x.told(2, 99);
        x.house(0, 6, 2);
        Due.tape(x, "defgh");
        x.end(0);
        Due.curve(x, "bends 2");
        Due.due("back", x.back(1), 0);
        int[] due = {3, 0, 1, 1, 0, 2, 1, 1, 0, 3, 1};
        for (int what = 0; what <= 10; what++) Due.due("back: count(" + what + ")", x.count(what), due[what]);
        Due.due("back: the slip's n", x.anew(0, 0), 1);
        Due.due("back: what was told, and now", x.gives(0), 25);
        Due.due("back: the line is there", x.line(0, 0, 1), ThinLine.NONE);
        Due.due("back: a line is not there", x.line(0, 1, 1), 2);
    }
}
