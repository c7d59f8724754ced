/** Terms, part I: each sentence that bounds a text or names a FAULT, at the bound and on both sides of it. */
public final class TextEdgesTest {
    private static final String[] ORDINARY = {"noise 3", "wide 3", "gives 3"};

    public static void main(String[] args) {
        fourHundredBytes();
        theEndIsBehindTheLastByte();
        twelveClauses();
        onceAtMost();
        numbersOfClauses();
        theSecondNotBelowTheFirst();
        digits();
        asFarAsDigitsGoOn();
        asFarAsLettersGoOn();
        wordsOfEachSort();
        everyByte();
        blanks();
        signs();
        tenDeep();
        deepOneBesideAnother();
        sixtyInAll();
        sixtyOverAllClauses();
        oneFactTooMany();
        theFirstAlongTheText();
        theLeastOfOnePlace();
        aFaultEmptiesTheTape();
        nothingStaysOfAFault();
        eachTextHasItsOwnSixty();
        testsTurned();
        asManyAsCanBe();
        Due.end();
    }

    private static void stands(int sort, String text) {
        Due.due("<" + text + "> stands", Due.text(new ThinLine(), sort, text), 0);
    }

    private static void fault(int sort, String text, int place, int code) {
        Due.due("<" + text + ">", Due.text(new ThinLine(), sort, text), -2 - (1 + 8 * place + code));
    }

    private static String filledTo(int bytes, String text) {
        return text + " ".repeat(bytes - text.length());
    }

    private static void fourHundredBytes() {
        for (int sort = 0; sort < 3; sort++) {
            stands(sort, filledTo(399, ORDINARY[sort]));
            stands(sort, filledTo(400, ORDINARY[sort]));
            stands(sort, " ".repeat(400 - ORDINARY[sort].length()) + ORDINARY[sort]);
        }
        ThinLine x = new ThinLine();
        Due.tape(x, filledTo(400, "gives 12345"));
        Due.due("400 bytes are there", x.count(9), 400);
        Due.due("no byte comes behind 400", x.feed(0, 0, 0, 0, 0), ThinLine.NONE);
        Due.due("none came", x.count(9), 400);
        Due.due("the 400 are as they were", x.text(2), 0);
        Due.due("and worth as much", x.gives(0), 12345);
        // 381 to 399 bytes have no room for twenty, 380 have
        for (int n = 381; n < 400; n++) {
            x = new ThinLine();
            Due.tape(x, filledTo(n, "gives 7"));
            Due.due(n + " and twenty", x.feed(-1, -1, -1, -1, -1), ThinLine.NONE);
            Due.due(n + " stay", x.end(n), n);
            Due.due(n + " are as they were", x.text(2), 0);
        }
        x = new ThinLine();
        Due.tape(x, filledTo(380, "gives 7"));
        Due.due("380 and twenty", x.feed(0x20202020, 0x20202020, 0x20202020, 0x20202020, 0x2020202b), 400);
        Due.due("the last byte of all is read", x.text(2), -2 - (1 + 8 * 400));
    }

    private static void theEndIsBehindTheLastByte() {
        for (int n = 0; n <= 2; n++) fault(0, " ".repeat(n), n, 0);
        fault(0, filledTo(399, "shine"), 399, 0);
        fault(0, filledTo(400, "shine"), 400, 0);
        fault(0, filledTo(400, "shine 1;"), 400, 0);
        fault(0, filledTo(399, "shine 1") + "+", 400, 0);
        fault(0, filledTo(399, "shine 1") + "?", 399, 0);
        fault(0, filledTo(399, "shine 1") + "1", 399, 0);
        fault(2, filledTo(398, "gives 1 if 1") + " <", 400, 0);
        stands(2, filledTo(397, "gives 1 if 1") + "< 2");
    }

    private static String clauses(int n, String clause) {
        return clause + (";" + clause).repeat(n - 1);
    }

    private static void twelveClauses() {
        String[] clause = {"eats 1 1", "skip 1<2", "gives 1"};
        for (int sort = 0; sort < 3; sort++) {
            int length = clause[sort].length() + 1;
            stands(sort, clauses(1, clause[sort]));
            stands(sort, clauses(11, clause[sort]));
            stands(sort, clauses(12, clause[sort]));
            fault(sort, clauses(13, clause[sort]), 12 * length, 4);
            fault(sort, clauses(14, clause[sort]), 12 * length, 4);
            fault(sort, clauses(12, clause[sort]) + ";", 12 * length, 0);
            fault(sort, clauses(12, clause[sort]) + ";   " + clause[sort], 12 * length + 3, 4);
        }
        stands(0, "noise 1;ripple 2 2;" + clauses(10, "shine 1"));
        fault(0, "noise 1;ripple 2 2;" + clauses(11, "shine 1"), 19 + 80, 4);
        // what stands behind the thirteenth head is not looked at
        fault(0, clauses(12, "shine 1") + ";shine ?", 96, 4);
        fault(0, clauses(12, "shine 1") + ";noise 1", 96, 4);
    }

    private static void onceAtMost() {
        String[][] once = {{"ripple 2 0", "noise 0"}, {"bends 0", "gap 0 0", "wide 0"}};
        for (int sort = 0; sort < 2; sort++) {
            for (String clause : once[sort]) {
                stands(sort, clause);
                fault(sort, clause + ";" + clause, clause.length() + 1, 4);
                fault(sort, clause + "; " + clause, clause.length() + 2, 4);
            }
            stands(sort, String.join(";", once[sort]));
        }
        stands(0, clauses(2, "shine 1"));
        stands(0, clauses(2, "eats 1 1"));
        stands(1, clauses(2, "skip 1=1"));
        stands(2, clauses(2, "gives 1"));
        // the second is one whatever its NUMBERS are
        fault(0, "noise 1;noise 10000", 8, 4);
        fault(1, "bends 1;wide 1;bends", 15, 4);
    }

    /** A NUMBER of a CLAUSE from its least to its most, and beside these. */
    private static void number(int sort, String ahead, int least, int most, String behind) {
        stands(sort, ahead + least + behind);
        stands(sort, ahead + most + behind);
        if (least > 0) fault(sort, ahead + (least - 1) + behind, ahead.length(), 1);
        fault(sort, ahead + (most + 1) + behind, ahead.length(), 1);
        fault(sort, ahead + "99999" + behind, ahead.length(), 1);
        fault(sort, ahead + "100000" + behind, ahead.length(), 1);
        fault(sort, ahead + "-1" + behind, ahead.length(), 0);
        fault(sort, ahead + "row" + behind, ahead.length(), 0);
        fault(sort, ahead, ahead.length(), 0);
    }

    private static void numbersOfClauses() {
        number(0, "ripple ", 2, 99, " 0");
        fault(0, "ripple 0 0", 7, 1);
        number(0, "ripple 2 ", 0, 9999, "");
        number(0, "noise ", 0, 9999, "");
        number(0, "eats ", 0, 11, " 0");
        number(0, "eats 0 ", 0, 9999, "");
        number(1, "bends ", 0, 40, "");
        number(1, "gap ", 0, 299, " 299");
        number(1, "gap 0 ", 0, 299, "");
        number(1, "wide ", 0, 50, "");
    }

    private static void theSecondNotBelowTheFirst() {
        for (int first : new int[] {1, 9, 140, 299}) {
            String ahead = "gap " + first + " ";
            stands(1, ahead + first);
            fault(1, ahead + (first - 1), ahead.length(), 1);
            if (first < 299) stands(1, ahead + (first + 1));
        }
        fault(1, "gap 300 299", 4, 1);
        fault(1, "gap 299 300", 8, 1);
        fault(1, "gap 299 0", 8, 1);
        // the one CLAUSE's bound is its own
        stands(0, "ripple 99 0");
        stands(0, "eats 11 0");
    }

    private static void digits() {
        for (int n = 1; n <= 5; n++) {
            stands(0, "shine " + "9".repeat(n));
            stands(0, "shine " + "0".repeat(n));
            stands(0, "noise " + "0".repeat(n));
        }
        for (int n = 6; n <= 30; n += 6) {
            fault(0, "shine " + "9".repeat(n), 6, 1);
            fault(0, "shine " + "0".repeat(n), 6, 1);
            fault(0, "noise " + "0".repeat(n), 6, 1);
            fault(1, "skip 1 < " + "0".repeat(n), 9, 1);
            fault(2, "gives 1 if " + "1".repeat(n) + " < 2", 11, 1);
        }
        // a NUMBER that would go round to one that is as told
        fault(0, "noise 4294967297", 6, 1);
        fault(0, "noise 18446744073709551617", 6, 1);
        fault(0, "shine " + "1".repeat(394), 6, 1);
        stands(0, "ripple 00002 00000");
        fault(0, "ripple 000002 0", 7, 1);
        ThinLine x = new ThinLine();
        Due.way(x, "gives 99999");
        Due.way(x, "gives 00007");
        Due.way(x, "gives 00000");
        Due.due("five digits", x.gives(0), 99999);
        Due.due("five digits, most of them 0", x.gives(1), 7);
        Due.due("five times 0", x.gives(2), 0);
    }

    private static void asFarAsDigitsGoOn() {
        fault(0, "shine 12 34", 9, 0);
        fault(0, "shine 12345 6", 12, 0);
        fault(0, "shine 1a", 7, 0);
        stands(0, "shine 1if 2<3");
        stands(0, "shine 1 if 2<3or 4<5and 6<7");
        stands(0, "ripple 2 99;noise 1");
        fault(0, "ripple 299", 7, 1);
        fault(0, "ripple 29 9 9", 12, 0);
        stands(1, "gap 1 2");
        fault(1, "gap 12", 6, 0);
    }

    private static void asFarAsLettersGoOn() {
        stands(0, "shine1");
        stands(0, "noise1;eats1 1");
        stands(1, "skip[1<2]");
        stands(1, "skip not[1<2]");
        fault(1, "skipnot 1<2", 0, 0);
        fault(0, "shinecolour", 0, 0);
        fault(0, "shine colourif 1<2", 6, 0);
        fault(0, "shine colour ifnot 1<2", 13, 0);
        fault(1, "skip 1<2or1<2andnot 1<2", 13, 0);
        fault(1, "skip notnot 1<2", 5, 0);
        fault(1, "skip noti 1<2", 5, 0);
        fault(0, "shine rowrow", 6, 0);
        fault(0, "shine ro", 6, 0);
        fault(0, "shine ro w", 6, 0);
        fault(0, "shine Row", 6, 0);
        fault(0, "shine roW", 6, 0);
        fault(0, "s hine 1", 0, 0);
        stands(0, "shine row");
    }

    private static void wordsOfEachSort() {
        String[] seen = {"colour", "glass", "hour", "row"};
        String[] told = {"light", "heat", "storm", "fall", "week"};
        for (String word : seen) {
            stands(0, "shine " + word);
            stands(0, "shine 1 if " + word + " < " + word);
            stands(1, "skip " + word + " < " + word);
            fault(2, "gives " + word, 6, 0);
            fault(2, "gives 1 if 1 < " + word, 15, 0);
        }
        for (String word : told) {
            stands(2, "gives " + word);
            stands(2, "gives 1 if " + word + " < " + word);
            fault(0, "shine " + word, 6, 0);
            fault(1, "skip " + word + " < 1", 5, 0);
        }
        String[][] heads = {{"shine 1", "ripple 2 0", "noise 0", "eats 0 0"}, {"bends 0", "gap 0 0", "wide 0", "skip 1<2"}, {"gives 1"}};
        for (int of = 0; of < 3; of++) {
            for (String clause : heads[of]) {
                for (int sort = 0; sort < 3; sort++) {
                    if (sort == of) stands(sort, clause);
                    else fault(sort, clause, 0, 0);
                }
            }
        }
        for (String word : new String[] {"if", "or", "and", "not", "shine", "gap", "gives"}) fault(0, "shine " + word, 6, 0);
    }

    /** Each byte there is: alone, where a CLAUSE may end, and where a VALUE must stand. */
    private static void everyByte() {
        for (int b = 0; b < 256; b++) {
            String s = String.valueOf((char) b);
            fault(0, s, b == ' ' ? 1 : 0, 0);
            boolean digit = b >= '0' && b <= '9';
            if (digit || b == ' ') stands(0, "shine 1" + s);
            else fault(0, "shine 1" + s, ";+-*/".indexOf(b) >= 0 ? 8 : 7, 0);
            if (digit) stands(0, "shine " + s);
            else fault(0, "shine " + s, b == ' ' ? 7 : 6, 0);
            if (digit) fault(1, "skip 1" + s, 7, 0);
            else fault(1, "skip 1" + s, " +-*/<=>".indexOf(b) >= 0 ? 7 : 6, 0);
        }
    }

    private static void blanks() {
        stands(0, "   shine   1   +   2   if   1   <=   2   ;   noise   3   ");
        stands(0, "shine 1+2if 1<=2;noise 3");
        stands(1, "skip[not[1<2]]");
        stands(1, "  skip  [  not  [  1  <  2  ]  ]  ");
        for (char other : new char[] {0, 9, 10, 13, 31, 33, 127, 160}) {
            fault(0, "shine" + other + "1", 5, 0);
            fault(0, other + "shine 1", 0, 0);
            fault(0, "shine 1" + other, 7, 0);
        }
        // no blank within a sign of two bytes
        fault(1, "skip 1 < = 2", 9, 0);
        fault(1, "skip 1 > = 2", 9, 0);
    }

    private static void signs() {
        for (String sign : new String[] {"<", "<=", "=", ">=", ">"}) stands(1, "skip 1" + sign + "2");
        for (String sign : new String[] {"==", "<<", ">>", "<>", "><", "=<", "=>"}) fault(1, "skip 1" + sign + "2", 7, 0);
        fault(1, "skip 1<==2", 8, 0);
        fault(1, "skip 1!=2", 6, 0);
        fault(1, "skip 1", 6, 0);
        fault(1, "skip 1<", 7, 0);
        fault(1, "skip <2", 5, 0);
        fault(1, "skip 1<2<3", 8, 0);
        fault(1, "skip [1]<2", 7, 0);
        fault(1, "skip [1+2]<3", 9, 0);
        fault(1, "skip 1<[2]", 7, 0);
        fault(1, "skip []", 6, 0);
        fault(1, "skip 1<2]", 8, 0);
        fault(1, "skip [1<2", 9, 0);
        fault(1, "skip [1<2]]", 10, 0);
        fault(1, "skip 1<2 and", 12, 0);
        fault(1, "skip 1<2 or", 11, 0);
        fault(1, "skip 1<2 and or 1<2", 13, 0);
        fault(1, "skip 1<2 not 1<2", 9, 0);
        fault(1, "skip not", 8, 0);
        fault(1, "skip not not", 12, 0);
        fault(1, "skip not;", 8, 0);
    }

    private static void tenDeep() {
        String[] ahead = {"shine 1 if ", "skip ", "gives 1 if "};
        for (int sort = 0; sort < 3; sort++) {
            int at = ahead[sort].length();
            for (int deep = 9; deep <= 12; deep++) {
                String brackets = ahead[sort] + "[".repeat(deep) + "1<2" + "]".repeat(deep);
                String nots = ahead[sort] + "not ".repeat(deep) + "1<2";
                if (deep <= 10) {
                    stands(sort, brackets);
                    stands(sort, nots);
                } else {
                    fault(sort, brackets, at + 10, 2);
                    fault(sort, nots, at + 40, 2);
                }
            }
        }
        stands(1, "skip " + "not[".repeat(5) + "1<2" + "]".repeat(5));
        fault(1, "skip " + "not[".repeat(5) + "[1<2]" + "]".repeat(5), 5 + 20, 2);
        fault(1, "skip " + "not[".repeat(5) + "not 1<2" + "]".repeat(5), 5 + 20, 2);
        stands(1, "skip " + "[not ".repeat(5) + "1<2" + "]".repeat(5));
        fault(1, "skip " + "[not ".repeat(5) + " [1<2]" + "]".repeat(5), 5 + 25 + 1, 2);
        // at the sign, whatever stands behind it
        fault(1, "skip " + "[".repeat(11), 15, 2);
        fault(1, "skip " + "[".repeat(10) + "not", 15, 2);
        fault(1, "skip " + "[".repeat(10), 15, 0);
    }

    private static void deepOneBesideAnother() {
        String ten = "[".repeat(10) + "1<2" + "]".repeat(10);
        stands(1, "skip " + ten + " and " + ten + " or " + ten);
        stands(1, "skip " + ten + ";skip " + ten);
        stands(1, "skip " + "not ".repeat(10) + "1<2 and " + "not ".repeat(10) + "1<2");
        // behind a closed bracket there is room again, but just so much
        stands(1, "skip [" + "[".repeat(9) + "1<2" + "]".repeat(9) + " and " + "[".repeat(9) + "1<2" + "]".repeat(9) + "]");
        String one = "skip [" + "[".repeat(9) + "1<2" + "]".repeat(9) + " and ";
        fault(1, one + "[".repeat(10) + "1<2" + "]".repeat(11), one.length() + 9, 2);
        // a not ends with its FACT
        stands(1, "skip [" + "not ".repeat(9) + "1<2 and " + "not ".repeat(9) + "1<2]");
    }

    private static void sixtyInAll() {
        for (int n = 59; n <= 62; n++) {
            String sum = "1" + "+1".repeat(n - 1);
            if (n <= 60) {
                stands(0, "shine " + sum);
                stands(2, "gives " + sum);
            } else {
                fault(0, "shine " + sum, 6 + 2 * 60, 3);
                fault(2, "gives " + sum, 6 + 2 * 60, 3);
            }
        }
        // at the first byte of a WORD or of a NUMBER of more bytes
        fault(0, "shine 1" + "*1".repeat(59) + "+  colour", 6 + 119 + 3, 3);
        fault(0, "shine 1" + "*1".repeat(59) + "+12345", 6 + 119 + 1, 3);
        fault(2, "gives 1" + "/1".repeat(59) + "/ week", 6 + 119 + 2, 3);
        // two VALUES and a SIGN are three: twenty such FACTS
        String fact = "1<2";
        stands(1, "skip " + fact + (" or " + fact).repeat(19));
        fault(1, "skip " + fact + (" or " + fact).repeat(20), 5 + 3 + 19 * 7 + 4, 3);
        stands(1, "skip " + fact + (" and " + fact).repeat(19));
        // brackets and not are none
        stands(1, "skip not [" + fact + (" or " + fact).repeat(19) + "]");
    }

    private static void sixtyOverAllClauses() {
        String five = "1+1+1+1+1";
        stands(2, clauses(12, "gives " + five));
        String full = clauses(11, "gives " + five);
        fault(2, full + ";gives " + five + "+1", full.length() + 7 + 10, 3);
        // NUMBERS of ripple, noise, eats, bends, gap, wide are none
        String sixty = "1" + "+1".repeat(59);
        stands(0, "ripple 5 5;noise 5;eats 1 1;eats 2 2;shine " + sixty);
        stands(0, "shine " + sixty + ";ripple 5 5;noise 5;eats 1 1");
        fault(0, "shine " + sixty + ";ripple 5 5;shine 1", 6 + 119 + 12 + 6, 3);
        String facts = "1<2" + " or 1<2".repeat(19);
        stands(1, "bends 1;gap 1 1;wide 1;skip " + facts);
        fault(1, "skip " + facts + ";skip 1<2", 5 + 136 + 6, 3);
    }

    private static void oneFactTooMany() {
        // 58 VALUES, the SIGN is the 59th, the VALUE behind it the 60th
        String ahead = "skip 1" + "+1".repeat(57);
        stands(1, ahead + "<2");
        fault(1, ahead + "<2+3", ahead.length() + 3, 3);
        // 59 VALUES: the SIGN is the 60th, the VALUE behind it one too many
        ahead = "skip 1" + "+1".repeat(58);
        fault(1, ahead + "<2", ahead.length() + 1, 3);
        fault(1, ahead + " >= 2", ahead.length() + 4, 3);
        // 60 VALUES: the SIGN is one too many
        ahead = "skip 1" + "+1".repeat(59);
        for (String sign : new String[] {"<", "<=", "=", ">=", ">"}) {
            fault(1, ahead + sign + "2", ahead.length(), 3);
            fault(1, ahead + "  " + sign + "2", ahead.length() + 2, 3);
        }
    }

    private static void theFirstAlongTheText() {
        fault(0, "noise 10000;shine ?", 6, 1);
        fault(0, "noise ?;noise 10000", 6, 0);
        fault(0, "noise 1;noise 1;shine ?", 8, 4);
        fault(0, "shine ?;noise 1;noise 1", 6, 0);
        fault(1, "skip " + "[".repeat(11) + "123456", 15, 2);
        fault(1, "skip 123456 < " + "[".repeat(11), 5, 1);
        fault(0, "shine 1" + "+1".repeat(60) + " ?", 126, 3);
        fault(0, "shine 1" + "+1".repeat(59) + "? 1", 125, 0);
        fault(0, clauses(12, "shine 1") + ";shine 1 ?", 96, 4);
        fault(0, clauses(11, "shine 1") + ";shine 123456;shine 1", 94, 1);
        // an open bracket is missed where something else stands
        fault(0, "shine 1 if [1<2;noise 123456", 15, 0);
    }

    private static void theLeastOfOnePlace() {
        String full = "shine 1" + "+1".repeat(59);
        fault(0, full + "+123456", full.length() + 1, 1);
        fault(0, full + "+light", full.length() + 1, 0);
        fault(0, full + " 123456", full.length() + 1, 0);
        fault(0, full + "<2", full.length(), 0);
        String twelve = clauses(12, "shine 1");
        fault(0, twelve + ";bends 1", 96, 0);
        fault(0, twelve + ";123456", 96, 0);
        fault(0, twelve + ";[", 96, 0);
        fault(0, "noise 1;123456", 8, 0);
        fault(1, "skip " + "[".repeat(10) + "123456", 15, 1);
        fault(1, "skip " + "[".repeat(10) + "1<2 [", 19, 0);
        fault(1, "skip " + "[".repeat(10) + "1<2 not", 19, 0);
        fault(1, "skip 1<2" + " or 1<2".repeat(19) + " or " + "[".repeat(10) + "123456", 155, 1);
        fault(0, "shine [", 6, 0);
    }

    private static void aFaultEmptiesTheTape() {
        ThinLine x = new ThinLine();
        for (int sort = 0; sort < 3; sort++) {
            Due.tape(x, "?");
            Due.due("a fault", x.text(sort), -3);
            Due.due("a fault: the tape is empty", x.count(9), 0);
            Due.due("a fault: no text came", x.count(4 + sort), 0);
            Due.due("a fault: nothing is left of it", x.text(sort), -3);
            Due.due("behind a fault", Due.text(x, sort, ORDINARY[sort]), 0);
            Due.due("a text: the tape is empty", x.count(9), 0);
            Due.due("a text: nothing is left of it", x.text(sort), -3);
            Due.due("a text: one came", x.count(4 + sort), 1);
        }
    }

    /** A text behind one with a FAULT is that text alone. */
    private static void nothingStaysOfAFault() {
        ThinLine x = new ThinLine();
        x.row(0, 0);
        x.line(0, 0, 1000);
        Due.due("a law with a fault", Due.law(x, "noise 0;shine 700;eats 0 9;ripple 2 90;?"), -2 - (1 + 8 * 39));
        Due.due("a law", Due.law(x, "noise 0"), 0);
        x.make(0, 0, 1, 0, 0);
        Due.due("no clause of the other law", x.read(0, 0), 0);
        Due.due("another law with a fault", Due.law(x, "noise 0;eats 0 900;?"), -2 - (1 + 8 * 19));
        Due.due("another law", Due.law(x, "noise 0"), 1);
        x.make(1, 0, 1, 0, 0);
        Due.due("nothing is eaten by the law with a fault", x.read(0, 0), 0);
        Due.due("a curve with a fault", Due.curve(x, "wide 50;skip 1<2;bends 3;gap 0 9;?"), -2 - (1 + 8 * 33));
        Due.due("a curve", Due.curve(x, "wide 3"), 0);
        x.make(0, 0, 1, 0, 299);
        Due.due("no clause of the other curve: used", x.deep(0, 0, 4), 280);
        Due.due("no clause of the other curve: knots", x.deep(0, 0, 3), 14);
        Due.due("no clause of the other curve: the gap", x.curve(0, 0, 140, 0), 0);
        Due.due("a way with a fault", Due.way(x, "gives 5;gives 7;?"), -2 - (1 + 8 * 16));
        Due.due("a way", Due.way(x, "gives 1"), 0);
        Due.due("no clause of the other way", x.gives(0), 1);
    }

    private static void eachTextHasItsOwnSixty() {
        ThinLine x = new ThinLine();
        String sixty = "1" + "+1".repeat(59);
        for (int i = 0; i < 3; i++) {
            for (int n = 0; n < 4; n++) Due.due("sixty and a fault", Due.way(x, "gives " + sixty + " ?"), -2 - (1 + 8 * 126));
            Due.due("sixty", Due.way(x, "gives " + sixty), i);
            Due.due("worth sixty", x.gives(i), 60);
            Due.due("sixty-one", Due.way(x, "gives " + sixty + "+1"), -2 - (1 + 8 * 126 + 3));
        }
        Due.due("sixty of another sort", Due.law(x, "shine " + sixty), 0);
        Due.due("the first is as it was", x.gives(0), 60);
    }

    private static void testsTurned() {
        String[] holds = {"1<2", "not 1>2", "not not 1<2", "not [1>2 or 1>2]", "[not 1>2]", "not 1>2 and not 1>2", "1>2 or not 1>2", "not " + "not ".repeat(9) + "1<2"};
        String[] not = {"1>2", "not 1<2", "not not 1>2", "not [1>2 or 1<2]", "[not 1<2]", "not 1>2 and not 1<2", "1>2 or not 1<2", "not ".repeat(9) + "1<2"};
        for (int i = 0; i < holds.length; i++) {
            ThinLine x = new ThinLine();
            Due.way(x, "gives 5 if " + holds[i]);
            Due.way(x, "gives 5 if " + not[i]);
            Due.due(holds[i], x.gives(0), 5);
            Due.due(not[i], x.gives(1), 0);
        }
        // all ten deep, and each turns the one within
        ThinLine x = new ThinLine();
        Due.way(x, "gives 5 if " + "not[".repeat(5) + "1<2" + "]".repeat(5));
        Due.way(x, "gives 5 if " + "[not ".repeat(4) + "1<2" + "]".repeat(4));
        Due.due("turned five times", x.gives(0), 0);
        Due.due("turned four times", x.gives(1), 5);
    }

    private static void asManyAsCanBe() {
        int[] most = {6, 8, 8};
        for (int sort = 0; sort < 3; sort++) {
            ThinLine x = new ThinLine();
            for (int i = 0; i < most[sort]; i++) {
                Due.due("a text with a fault takes no number", Due.text(x, sort, "?"), -3);
                Due.due("text " + i + " of sort " + sort, Due.text(x, sort, ORDINARY[sort]), i);
            }
            for (String text : new String[] {ORDINARY[sort], "?"}) {
                Due.tape(x, text);
                Due.due("one too many of sort " + sort, x.text(sort), ThinLine.NONE);
                Due.due("one too many: the tape stays", x.count(9), text.length());
                Due.due("one too many: none came", x.count(4 + sort), most[sort]);
                x.end(0);
            }
            int other = (sort + 1) % 3;
            Due.tape(x, ORDINARY[other]);
            Due.due("one too many, but not of another sort", x.text(sort), ThinLine.NONE);
            Due.due("of another sort there is room", x.text(other), 0);
            Due.tape(x, ORDINARY[other]);
            for (int no : new int[] {-1, 3, Integer.MIN_VALUE, Integer.MAX_VALUE}) {
                Due.due("no such sort", x.text(no), ThinLine.NONE);
                Due.due("no such sort: the tape stays", x.count(9), ORDINARY[other].length());
            }
            Due.due("what stayed is a text", x.text(other), 1);
        }
    }
}
