/** Promises 9 to 11 and 41: the TAPE, texts and their FAULTS, and what SUMS and TESTS are worth. */
public final class TextTest {
    public static void main(String[] args) {
        feed();
        end();
        text();
        limits();
        ordinary();
        cannotStand();
        notAsTold();
        tooDeep();
        tooMany();
        clauses();
        leastOfOnePlace();
        sums();
        tests();
        gives();
        Due.end();
    }

    private static void feed() {
        ThinLine x = new ThinLine();
        // "gives 12" and what is cut off
        Due.due("feed: twenty", x.feed(0x67697665, 0x73203132, 0x80ffffff, -1, 0x7f000001), 20);
        Due.due("feed: highest first", x.end(8), 8);
        Due.due("feed: a way", x.text(2), 0);
        Due.due("feed: its sum", x.gives(0), 12);
        for (int i = 1; i <= 20; i++) Due.due("feed " + i, x.feed(0, 0, 0, 0, 0), 20 * i);
        Due.due("feed: more than 400", x.feed(0, 0, 0, 0, 0), ThinLine.NONE);
        Due.due("feed: none came", x.count(9), 400);
        x.end(381);
        Due.due("feed: 381 and twenty", x.feed(0, 0, 0, 0, 0), ThinLine.NONE);
        x.end(380);
        Due.due("feed: 380 and twenty", x.feed(0, 0, 0, 0, 0), 400);
    }

    private static void end() {
        ThinLine x = new ThinLine();
        Due.due("end: of none", x.end(0), 0);
        Due.due("end: not so many", x.end(1), ThinLine.NONE);
        x.feed(0, 0, 0, 0, 0);
        Due.due("end: all", x.end(20), 20);
        Due.due("end: one too many", x.end(21), ThinLine.NONE);
        Due.due("end: below 0", x.end(-1), ThinLine.NONE);
        Due.due("end: as it was", x.count(9), 20);
        Due.due("end: some", x.end(7), 7);
        Due.due("end: no more", x.end(8), ThinLine.NONE);
    }

    private static void text() {
        ThinLine x = new ThinLine();
        Due.due("text: nothing", x.text(0), -3);
        Due.tape(x, "noise 3");
        Due.due("text: no such sort", x.text(3), ThinLine.NONE);
        Due.due("text: no such sort below", x.text(-1), ThinLine.NONE);
        Due.due("text: the tape is as it was", x.count(9), 7);
        Due.due("text: not a curve", x.text(1), -3);
        Due.due("text: the tape is empty", x.count(9), 0);
        Due.due("text: no curve came", x.count(5), 0);
        Due.due("text: a law", Due.law(x, "noise 3"), 0);
        Due.due("text: the tape is empty, too", x.count(9), 0);
        Due.due("text: another law", Due.law(x, "noise 3"), 1);
        Due.due("text: a curve", Due.curve(x, "wide 3"), 0);
        Due.due("text: a way", Due.way(x, "gives 3"), 0);
    }

    private static void limits() {
        ThinLine x = new ThinLine();
        String[] texts = {"noise 3", "wide 3", "gives 3"};
        int[] most = {6, 8, 8};
        for (int sort = 0; sort < 3; sort++) {
            for (int i = 0; i < most[sort]; i++) Due.due("text: of sort " + sort, Due.text(x, sort, texts[sort]), i);
            Due.tape(x, "?");
            Due.due("text: as many as can be", x.text(sort), ThinLine.NONE);
            Due.due("text: nothing happened", x.count(9), 1);
            x.end(0);
        }
    }

    private static void stands(int sort, String text) {
        Due.due("<" + text + "> stands", Due.text(new ThinLine(), sort, text), 0);
    }

    private static void fault(int sort, String text, int place, int code) {
        Due.due("<" + text + ">", Due.text(new ThinLine(), sort, text), -2 - (1 + 8 * place + code));
    }

    private static void ordinary() {
        stands(0, "shine 1");
        stands(0, "  shine  1  ");
        stands(0, "shine1");
        stands(0, "shine colour+glass*hour/row-00000;ripple 2 0;noise 9999;eats 11 9999;eats 0 0;shine 1if 1<2");
        stands(0, "ripple 99 9999");
        stands(1, "bends 0;gap 0 0;wide 0");
        stands(1, "bends 40;gap 299 299;wide 50;skip not[1<2or 2<=3]and[[colour=glass]]or hour>=row and 5>4");
        stands(1, "gap 0 299;skip 1=1;skip 1=2");
        stands(2, "gives light + heat - storm * fall / week if not not 1 < 2");
        stands(2, "gives 1;gives 1;gives 1;gives 1;gives 1;gives 1;gives 1;gives 1;gives 1;gives 1;gives 1;gives 1");
    }

    private static void cannotStand() {
        fault(0, "", 0, 0);
        fault(0, "   ", 3, 0);
        fault(0, "shine", 5, 0);
        fault(0, "shine ", 6, 0);
        fault(0, "shines 1", 0, 0);
        fault(0, "shinez 1", 0, 0);
        fault(0, "thine 1", 0, 0);
        fault(0, "shin 1", 0, 0);
        fault(0, "shine colouz", 6, 0);
        fault(0, " Shine 1", 1, 0);
        fault(0, "shine 1 2", 8, 0);
        fault(0, "shine colour glass", 13, 0);
        fault(0, "shine light", 6, 0);
        fault(2, "gives colour", 6, 0);
        fault(2, "shine 1", 0, 0);
        fault(1, "noise 1", 0, 0);
        fault(0, "wide 1", 0, 0);
        fault(0, "shine 1;", 8, 0);
        fault(0, "shine 1; ;shine 2", 9, 0);
        fault(0, "shine -1", 6, 0);
        fault(0, "shine 1 +", 9, 0);
        fault(0, "shine 1 * / 2", 10, 0);
        fault(0, "shine (1)", 6, 0);
        fault(0, "shine [1]", 6, 0);
        fault(0, "shine 1 if", 10, 0);
        fault(0, "shine 1 if 1", 12, 0);
        fault(0, "shine 1 if 1 < ", 15, 0);
        fault(0, "shine 1 if 1 < = 2", 15, 0);
        fault(0, "shine 1 if 1 => 2", 14, 0);
        fault(0, "shine 1 if 1 < 2 < 3", 17, 0);
        fault(0, "shine 1 if [1 < 2", 17, 0);
        fault(0, "shine 1 if 1 < 2]", 16, 0);
        fault(0, "shine 1 if [1 < 2;shine 3", 17, 0);
        fault(0, "shine 1 if 1 < 2 if 3 < 4", 17, 0);
        fault(0, "shine 1 if 1 < 2 and", 20, 0);
        fault(0, "shine 1 if or 1 < 2", 11, 0);
        fault(0, "shine 1 if [1] < 2", 13, 0);
        fault(0, "shine 1 if not", 14, 0);
        fault(0, "shine 1 and 2", 8, 0);
        fault(0, "shine not", 6, 0);
        fault(0, "shine 1\u0000", 7, 0);
        fault(0, "shine\t1", 5, 0);
        fault(0, "shine 1 \u00e9", 8, 0);
        fault(0, "noise", 5, 0);
        fault(0, "noise x", 6, 0);
        fault(0, "noise 1 2", 8, 0);
        fault(0, "noise 1 if 1 < 2", 8, 0);
        fault(0, "noise 1+1", 7, 0);
        fault(0, "ripple 5", 8, 0);
        fault(0, "ripple 5;", 8, 0);
        fault(1, "skip 1", 6, 0);
        fault(1, "skip light < 1", 5, 0);
        fault(1, "skip 1 < 2 if 1 < 2", 11, 0);
        fault(1, "gap 5", 5, 0);
        fault(1, "gap 5, 6", 5, 0);
    }

    private static void notAsTold() {
        fault(0, "shine 123456", 6, 1);
        fault(0, "shine 000001", 6, 1);
        fault(0, "shine 1 + 1000000000000000000000000", 10, 1);
        fault(0, "shine 1 if 1 < 100000", 15, 1);
        fault(0, "ripple 1 0", 7, 1);
        fault(0, "ripple 100 0", 7, 1);
        fault(0, "ripple 2 10000", 9, 1);
        fault(0, "ripple 2 123456", 9, 1);
        fault(0, "noise 10000", 6, 1);
        fault(0, "eats 12 0", 5, 1);
        fault(0, "eats 11 10000", 8, 1);
        fault(1, "bends 41", 6, 1);
        fault(1, "wide 51", 5, 1);
        fault(1, "gap 300 300", 4, 1);
        fault(1, "gap 0 300", 6, 1);
        fault(1, "gap 10 9", 7, 1);
        // a FAULT farther along does not count
        fault(1, "gap 10 9; ?", 7, 1);
    }

    private static String times(int n, String s) {
        return s.repeat(n);
    }

    private static void tooDeep() {
        stands(1, "skip " + times(10, "[") + "1<2" + times(10, "]"));
        stands(1, "skip " + times(10, "not ") + "1<2");
        stands(0, "shine 1 if " + times(10, "[") + "1<2" + times(10, "]"));
        stands(2, "gives 1 if " + times(10, "not ") + "1<2");
        fault(0, "shine 1 if " + times(11, "[") + "1<2", 21, 2);
        stands(1, "skip " + times(5, "not [") + "1<2" + times(5, "]"));
        stands(1, "skip " + times(3, "[1<2]and ") + times(10, "[") + "1<2" + times(10, "]") + " or not 1<2");
        fault(1, "skip " + times(11, "[") + "1<2" + times(11, "]"), 15, 2);
        fault(1, "skip " + times(11, "not ") + "1<2", 45, 2);
        fault(1, "skip " + times(5, "not[") + " [1<2" + times(6, "]"), 26, 2);
        fault(1, "skip " + times(5, "not[") + "not 1<2" + times(5, "]"), 25, 2);
        fault(1, "skip " + times(10, "[") + "1<2 and [", 23, 2);
    }

    private static void tooMany() {
        // 60 VALUES, and one more
        stands(0, "shine 1" + times(59, "+1"));
        fault(0, "shine 1" + times(60, "+1"), 126, 3);
        fault(0, "shine 1" + times(59, "+1") + " * colour", 128, 3);
        // twenty FACTS of a SIGN and two VALUES each
        stands(1, "skip 1<2" + times(19, "or 1<2"));
        fault(1, "skip 1<2" + times(19, "or 1<2") + "or 1<2", 125, 3);
        // the SIGN is the one too many: 59 VALUES and a SIGN are 60, and 60 VALUES and a SIGN are not
        fault(1, "skip 1" + times(58, "+1") + " < 2", 125, 3);
        fault(1, "skip 1" + times(59, "+1") + " <= 2", 125, 3);
        // all CLAUSES together; the NUMBERS of ripple, noise and eats are none
        stands(0, "ripple 5 5;noise 5;eats 5 5;shine 1" + times(29, "+1") + ";shine 1" + times(29, "+1"));
        fault(0, "ripple 5 5;noise 5;eats 5 5;shine 1" + times(29, "+1") + ";shine 1" + times(30, "+1"), 160, 3);
        stands(2, "gives 1" + times(56, "+1") + " if 1<2");
        fault(2, "gives 1" + times(57, "+1") + " if 1<2", 127, 3);
    }

    private static void clauses() {
        String twelve = "gives 1" + times(11, ";gives 1");
        stands(2, twelve);
        fault(2, twelve + ";gives 1", 96, 4);
        fault(2, twelve + "; gives 1", 97, 4);
        fault(2, twelve + ";", 96, 0);
        fault(2, twelve + ";given 1", 96, 0);
        fault(0, "ripple 2 2; ripple 2 2", 12, 4);
        fault(0, "noise 2;shine 1;noise 2", 16, 4);
        fault(1, "bends 2;bends 2", 8, 4);
        fault(1, "gap 2 2;wide 2;gap 2 2", 15, 4);
        fault(1, "wide 2;wide 2", 7, 4);
        stands(0, "eats 2 2;eats 2 2;shine 1;shine 1");
        stands(1, "skip 1<2;skip 1<2");
    }

    private static void leastOfOnePlace() {
        // a NUMBER that can't stand there is not too long
        fault(0, "shine 1 123456", 8, 0);
        fault(0, "shine 1" + times(59, "+1") + " 1", 126, 0);
        // too long before too many
        fault(0, "shine 1" + times(59, "+1") + "+123456", 126, 1);
        fault(0, "shine 1" + times(59, "+1") + "+light", 126, 0);
        // a WORD of another sort, and a thirteenth CLAUSE
        fault(0, "shine 1" + times(11, ";shine 1") + ";wide 1", 96, 0);
        fault(0, "noise 1" + times(11, ";shine 1") + ";noise 1", 96, 4);
        fault(1, "skip " + times(10, "[") + "]", 15, 0);
    }

    private static void worth(String sum, int due) {
        ThinLine x = new ThinLine();
        x.clock(7);
        x.told(0, 100);
        x.told(1, 20);
        x.told(2, 3);
        x.told(3, 9999);
        Due.way(x, "gives " + sum);
        Due.due("gives " + sum, x.gives(0), due);
    }

    private static void sums() {
        worth("00012", 12);
        worth("light", 100);
        worth("heat", 20);
        worth("storm", 3);
        worth("fall", 9999);
        worth("week", 7);
        worth("light - heat - storm", 77);
        worth("light / heat / storm", 1);
        worth("light / storm * storm", 99);
        worth("1 + 2 * 3 - 4 / 2", 5);
        worth("2 * 3 + 4 * 5", 26);
        worth("5 / 0 + 9", 9);
        worth("week / week", 1);
        // no TERM is below 0 but by going round: 65536*65536*65536*32768 is -9223372036854775808
        worth("65536*65536*65536*32768/3*3 - 65536*65536*65536*32768", 2);
        worth("65536*65536*65536*32768 / 65536 / 65536 + 70000 * 65536", 99999999);
        worth("65536*65536*65536*32768 / 65536 / 65536 / 65536 / 16384 + 10", 8);
    }

    private static void tests() {
        worth("1 if 3 < 3", 0);
        worth("1 if 3 <= 3", 1);
        worth("1 if 3 = 3", 1);
        worth("1 if 3 >= 3", 1);
        worth("1 if 3 > 3", 0);
        worth("1 if 2 < 3", 1);
        worth("1 if 2 <= 3", 1);
        worth("1 if 2 = 3", 0);
        worth("1 if 2 >= 3", 0);
        worth("1 if 4 > 3", 1);
        worth("1 if 1<2 or 1>2 and 1>2", 1);
        worth("1 if [1<2 or 1>2] and 1>2", 0);
        worth("1 if not 1>2 and 1>2", 0);
        worth("1 if not [1>2 and 1>2]", 1);
        worth("1 if not not 1<2", 1);
        worth("1 if not 1<2", 0);
        worth("1 if not not 1>2", 0);
        worth("1 if not 1<2 or not 2<3", 0);
        worth("1 if [1<2] and not [1>2]", 1);
        worth("1 if 1>2 or 1>2 or 1<2", 1);
        worth("1 if 1<2 and 1<2 and 1>2", 0);
        worth("1 if 1>2 and 1<2 or 1<2 and 2<3", 1);
        worth("1 if 0 - 5 < 0 - 4", 1);
        worth("1 if week * week = 49", 1);
    }

    private static void gives() {
        ThinLine x = new ThinLine();
        Due.due("gives: no way", x.gives(0), ThinLine.NONE);
        Due.way(x, "gives 5; gives light if heat > 3; gives 100 if heat > 4");
        Due.way(x, "gives 0 - 1");
        Due.way(x, "gives 99999 * 1000 + 999");
        Due.way(x, "gives 99999 * 1001");
        Due.way(x, "gives 99999 * 99999; gives 0 - 99999 * 99999; gives 4");
        Due.due("gives: one clause", x.gives(0), 5);
        x.told(0, 30);
        x.told(1, 4);
        Due.due("gives: two clauses", x.gives(0), 35);
        x.told(1, 5);
        Due.due("gives: all clauses", x.gives(0), 135);
        Due.due("gives: 0 at least", x.gives(1), 0);
        Due.due("gives: below the most", x.gives(2), 99999999);
        Due.due("gives: the most", x.gives(3), 99999999);
        Due.due("gives: held when all are together", x.gives(4), 4);
        Due.due("gives: behind the last", x.gives(5), ThinLine.NONE);
        Due.due("gives: below", x.gives(-1), ThinLine.NONE);
    }
}
