/** Promises 1 to 7: a test for each sentence of the document that names a boundary. */
public final class GrowthBoundaryTest {
    private static final int BAD = -1, FULL = -3, STATE = -5, VOID = -2000000000;
    private static final int LEAST = Integer.MIN_VALUE, GREATEST = Integer.MAX_VALUE;
    // LATE 0, PARENTS 4300.
    private static final int PLAIN = 244300;
    private static int wrong = 0;
    private static int asked = 0;
    private static String sentence = "";

    public static void main(String[] args) {
        theConstants();
        fiveHundredAndTwelveCalls();
        aNewObjectIsEmpty();
        twoObjectsShareNothing();
        bornInAMonth();
        aSex();
        lengthAtBirth();
        late();
        parents();
        sixChildren();
        tenWants();
        wantFromAMonthToAMonth();
        wantHowMuch();
        wantTheGreatest();
        monthsOfWants();
        aByte();
        aFullTape();
        aTextOfManyParts();
        theTapeIsEmptyThen();
        aFaultLeavesTheLaw();
        linesPartedBySemicolons();
        lineWithAQuestion();
        byteByByte();
        operatorsWantOperands();
        oneComparison();
        numbersOfOneToFourDigits();
        noBlanks();
        sixOpenAtOnce();
        closedOnesAreNotOpen();
        endsTooEarly();
        intsThatWrap();
        divisionTowardZero();
        divisionByZero();
        truthIsOneOrZero();
        theLineThatCounts();
        heldWithin();
        nameOfTheAge();
        nameOfTheHeight();
        nameOfTheParents();
        nameOfTheMonth();
        otherNames();
        withoutAText();
        withoutATextLate();
        lengthWhenBornAndNothingAhead();
        eightThousandAtMost();
        heightArguments();
        System.out.println(wrong == 0 ? asked + " answers are as due" : wrong + " answers are not as due");
        if (wrong != 0) {
            System.exit(1);
        }
    }

    private static void says(String words) {
        sentence = words;
    }

    private static void due(long want, long got, String call) {
        asked++;
        if (got != want) {
            wrong++;
            System.out.println("\"" + sentence + "\": " + call + " answered " + got + ", due is " + want);
        }
    }

    private static int law(DoorPost x, String text) {
        for (int i = 0; i < text.length(); i++) {
            x.feed(text.charAt(i));
        }
        return x.law();
    }

    private static String times(int n, String part) {
        return part.repeat(n);
    }

    private static void isText(String text) {
        due(1, law(new DoorPost(), text), "law of " + text);
    }

    private static void isFault(int place, String text) {
        due(-100 - place, law(new DoorPost(), text), "law of " + text);
    }

    /** What a TEXT gives in the first MONTH behind birth (a 1, m 1, h 20, p 67, s, w, k 0). */
    private static void gives(int growth, String text) {
        DoorPost x = new DoorPost();
        x.child(0, 1280, PLAIN);
        due(1, law(x, text), "law of " + text);
        due(1280 + growth, x.height(0, 1), "the first month by " + text);
    }

    // ---- the face, promise 1

    private static void theConstants() {
        says("BAD (-1); NOT (-2); FULL (-3); STATE (-5). VOID is -2000000000.");
        due(-1, DoorPost.BAD, "BAD");
        due(-2, DoorPost.NOT, "NOT");
        due(-3, DoorPost.FULL, "FULL");
        due(-5, DoorPost.STATE, "STATE");
        due(-2000000000, DoorPost.VOID, "VOID");
    }

    private static void fiveHundredAndTwelveCalls() {
        says("An object is used for at most 512 calls after it has been made");
        DoorPost x = new DoorPost();
        due(0, x.child(0, 500, PLAIN), "call 1");
        due(0, x.mark(0, 60, 600), "call 2");
        for (int call = 3; call <= 509; call++) {
            due(call - 3, x.mend(0, 0, call - 2), "call " + call);
        }
        due(39, x.undo(), "call 510");
        due(506, x.of(0, 0), "call 511");
        due(540, x.height(0, 1), "call 512");
    }

    private static void aNewObjectIsEmpty() {
        says("No children, no marks.");
        DoorPost x = new DoorPost();
        due(0, x.count(0), "children");
        due(0, x.count(2), "marks");
        due(VOID, x.of(0, 10), "born of child 0");
        due(VOID, x.of(0, 0), "height of mark 0");
        due(BAD, x.height(0, 0), "height of child 0");
        due(BAD, x.whose(0, 0), "whose mark 0");
        due(BAD, x.led(0), "led to child 0");
        due(VOID, x.tall(0, 0), "end of child 0");
        due(0, x.paint(599), "covered");
        due(0, x.together(0, -1), "the sum of none");
        due(0, x.count(1), "wants");
        due(0, x.wants(0), "want of the first month");
        due(0, x.wants(599), "want of the last month");
        due(0, x.count(3), "bytes");
        due(0, x.count(4), "changes");
        due(STATE, x.undo(), "undo");
        due(STATE, x.redo(), "redo");
        due(0, x.count(5), "bodies");
        due(0, x.act(0, 0, 5), "act of body 0");
        due(0, x.count(6), "bodies that ran");
        due(BAD, x.trace(0), "trace");
        for (int shelf = 0; shelf < 6; shelf++) {
            due(-11, x.taken(shelf, 0), "shelf " + shelf);
        }
    }

    private static void twoObjectsShareNothing() {
        says("All memory is the class's own.");
        DoorPost x = new DoorPost();
        DoorPost y = new DoorPost();
        law(x, "7");
        x.child(0, 500, PLAIN);
        y.child(0, 500, PLAIN);
        x.want(599, 9);
        x.mark(5, 60, 600);
        x.feed('1');
        x.body(0);
        x.act(0, 0, 1);
        x.row(0, 0, 1);
        due(507, x.height(0, 1), "the one's height");
        due(540, y.height(0, 1), "the other's height");
        due(0, y.wants(0), "the other's want");
        for (int what = 1; what < 7; what++) {
            due(0, y.count(what), "the other's count " + what);
        }
        due(-11, y.taken(0, 0), "the other's shelf");
    }

    // ---- promise 2

    private static void bornInAMonth() {
        says("MONTHS 0 .. 599: BORN in a MONTH");
        DoorPost x = new DoorPost();
        int[] not = {-1, -10, -11, 6000, 6001, 60000, LEAST, GREATEST};
        for (int bs : not) {
            due(BAD, x.child(bs, 1280, PLAIN), "bs " + bs);
        }
        due(0, x.child(0, 1280, PLAIN), "born in month 0");
        due(1, x.child(5990, 1280, PLAIN), "born in month 599");
        due(0, x.of(0, 10), "born of the first");
        due(599, x.of(1, 10), "born of the second");
        due(2, x.count(0), "children");
    }

    private static void aSex() {
        says("a SEX (0, 1)");
        DoorPost x = new DoorPost();
        for (int sex = 2; sex < 10; sex++) {
            due(BAD, x.child(100 + sex, 1280, PLAIN), "sex " + sex);
        }
        due(0, x.child(100, 1280, PLAIN), "sex 0");
        due(1, x.child(101, 1280, PLAIN), "sex 1");
        due(0, x.of(0, 11), "sex of the first");
        due(1, x.of(1, 11), "sex of the second");
        due(10, x.of(1, 10), "born of the second");
    }

    private static void lengthAtBirth() {
        says("LENGTH at birth (500 .. 2000)");
        DoorPost x = new DoorPost();
        int[] not = {499, 2001, 0, -500, -1, LEAST, GREATEST};
        for (int length : not) {
            due(BAD, x.child(0, length, PLAIN), "length " + length);
        }
        due(0, x.child(0, 500, PLAIN), "length 500");
        due(1, x.child(0, 2000, PLAIN), "length 2000");
        due(500, x.of(0, 12), "length of the first");
        due(2000, x.of(1, 12), "length of the second");
    }

    private static void late() {
        says("LATE (-24 .. 24)");
        DoorPost x = new DoorPost();
        int[] not = {-5700, -1, 494300, 504300, LEAST, GREATEST};
        for (int lp : not) {
            due(BAD, x.child(0, 1280, lp), "lp " + lp);
        }
        due(0, x.child(0, 1280, 4300), "late -24");
        due(1, x.child(0, 1280, 484300), "late 24");
        due(-24, x.of(0, 13), "late of the first");
        due(24, x.of(1, 13), "late of the second");
        due(4300, x.of(1, 14), "parents of the second");
    }

    private static void parents() {
        says("PARENTS (3000 .. 6000: their mean)");
        DoorPost x = new DoorPost();
        int[] not = {240000, 242999, 246001, 249999, 2999, 6001, 482999, 486001};
        for (int lp : not) {
            due(BAD, x.child(0, 1280, lp), "lp " + lp);
        }
        due(0, x.child(0, 1280, 243000), "parents 3000");
        due(1, x.child(0, 1280, 246000), "parents 6000");
        due(3000, x.of(0, 14), "parents of the first");
        due(6000, x.of(1, 14), "parents of the second");
        due(0, x.of(1, 13), "late of the second");
    }

    private static void sixChildren() {
        says("CHILDREN 0 .. 5, as they come: BAD, FULL: 6");
        DoorPost x = new DoorPost();
        for (int i = 0; i < 6; i++) {
            due(BAD, x.height(i, 599), "not yet child " + i);
            due(i, x.child(10 * i, 1280 + i, PLAIN), "child " + i);
            due(i + 1, x.count(0), "children");
        }
        due(FULL, x.child(0, 1280, PLAIN), "the seventh");
        due(FULL, x.child(5991, 2000, 486000), "one more");
        due(BAD, x.child(2, 1280, PLAIN), "BAD is named ahead of FULL");
        due(BAD, x.child(0, 499, PLAIN), "BAD is named ahead of FULL");
        due(BAD, x.child(0, 1280, -1), "BAD is named ahead of FULL");
        due(6, x.count(0), "children");
        for (int i = 0; i < 6; i++) {
            due(i, x.of(i, 10), "born of child " + i);
            due(1280 + i, x.of(i, 12), "length of child " + i);
        }
        due(VOID, x.of(6, 10), "no child 6");
        due(BAD, x.height(6, 0), "no child 6");
    }

    // ---- promises 3 and 7

    private static void tenWants() {
        says("WANTS 0 .. 9, as they come: BAD, FULL: 10");
        DoorPost x = new DoorPost();
        for (int i = 0; i < 10; i++) {
            due(i, x.want(1001 * i, 1), "want " + i);
            due(i + 1, x.count(1), "wants");
        }
        due(FULL, x.want(599, 9), "the eleventh");
        due(BAD, x.want(599, 10), "BAD is named ahead of FULL");
        due(BAD, x.want(5004, 1), "BAD is named ahead of FULL");
        due(10, x.count(1), "wants");
        due(1, x.wants(9), "the tenth counts");
        due(0, x.wants(10), "the eleventh doesn't");
    }

    private static void wantFromAMonthToAMonth() {
        says("from a MONTH to a MONTH (not ahead of it)");
        int[] not = {-1, -1000, 600, 999, 1000, 599598, 599600, 600000, 600599, 600600, 1000000, 1000001, LEAST, GREATEST};
        DoorPost x = new DoorPost();
        for (int span : not) {
            due(BAD, x.want(span, 1), "span " + span);
        }
        due(BAD, x.want(10009, 1), "to the month ahead of from");
        due(0, x.count(1), "wants");
        due(0, x.want(10010, 1), "one month");
        due(1, x.want(20021, 2), "two months");
        due(2, x.want(0, 3), "the first month");
        due(3, x.want(599599, 4), "the last month");
        int[][] told = {{9, 0}, {10, 1}, {11, 0}, {19, 0}, {20, 2}, {21, 2}, {22, 0}, {0, 3}, {1, 0}, {598, 0}, {599, 4}};
        for (int[] t : told) {
            due(t[1], x.wants(t[0]), "want of month " + t[0]);
        }
        due(4, x.want(599, 1), "all months");
        due(1, x.wants(598), "of all months");
    }

    private static void wantHowMuch() {
        says("how much (1 .. 9)");
        DoorPost x = new DoorPost();
        int[] not = {0, 10, -1, -9, LEAST, GREATEST};
        for (int much : not) {
            due(BAD, x.want(0, much), "much " + much);
        }
        due(0, x.wants(0), "none is told");
        due(0, x.want(0, 1), "much 1");
        due(1, x.wants(0), "1");
        due(1, x.want(0, 9), "much 9");
        due(9, x.wants(0), "9");
    }

    private static void wantTheGreatest() {
        says("WANT of a MONTH: of those it is in the greatest; 0");
        DoorPost x = new DoorPost();
        due(0, x.wants(5), "no want is told");
        x.want(10020, 5);
        x.want(15025, 3);
        x.want(20030, 7);
        x.want(12013, 5);
        int[][] told = {{9, 0}, {10, 5}, {12, 5}, {15, 5}, {19, 5}, {20, 7}, {21, 7}, {25, 7}, {30, 7}, {31, 0}};
        for (int[] t : told) {
            due(t[1], x.wants(t[0]), "want of month " + t[0]);
        }
        DoorPost y = new DoorPost();
        y.want(100200, 9);
        y.want(100200, 1);
        due(9, y.wants(150), "the later one is not the greatest");
    }

    private static void monthsOfWants() {
        says("WANT of a MONTH. BAD.");
        DoorPost x = new DoorPost();
        x.want(599, 2);
        int[] not = {-1, 600, LEAST, GREATEST};
        for (int month : not) {
            due(BAD, x.wants(month), "month " + month);
        }
        due(2, x.wants(0), "the first month");
        due(2, x.wants(599), "the last month");
    }

    // ---- promise 4

    private static void aByte() {
        says("A byte (0 .. 255) comes to THE TAPE: how many it has. BAD");
        DoorPost x = new DoorPost();
        int[] not = {-1, 256, -128, 65536 + '1', LEAST, GREATEST};
        for (int letter : not) {
            due(BAD, x.feed(letter), "letter " + letter);
        }
        due(0, x.count(3), "bytes");
        due(1, x.feed(0), "letter 0");
        due(2, x.feed(255), "letter 255");
        due(2, x.count(3), "bytes");
    }

    private static void aFullTape() {
        says("THE TAPE (at most 120 bytes): FULL (120)");
        DoorPost x = new DoorPost();
        x.child(0, 500, PLAIN);
        String text = "1" + times(59, "+1");
        for (int i = 0; i < 119; i++) {
            due(i + 1, x.feed(text.charAt(i)), "byte " + i);
        }
        due(120, x.feed('1'), "byte 119");
        due(FULL, x.feed('+'), "a byte more");
        due(FULL, x.feed(0), "a byte more");
        due(BAD, x.feed(256), "BAD is named ahead of FULL");
        due(120, x.count(3), "bytes");
        due(1, x.law(), "a text of 120 bytes");
        due(500 + 59 + 11, x.height(0, 1), "the height by all 120 bytes");
        due(1, x.feed('1'), "there is room again");
    }

    private static void aTextOfManyParts() {
        says("a TEXT by THE TAPE (at most 120 bytes)");
        gives(59, "-0" + times(59, "+1"));
        gives(59, "!1" + times(59, "+1"));
        gives(60, "!0" + times(59, "+a"));
        gives(0, times(29, "0?1;") + "0?-5");
        gives(5, times(29, "0?1;") + "1?05");
        isText(times(59, "a;") + "-a");
    }

    private static void theTapeIsEmptyThen() {
        says("THE TAPE becomes THE LAW: 1; -100 less its FAULT; THE TAPE is empty then.");
        DoorPost x = new DoorPost();
        due(-100, x.law(), "an empty tape");
        x.feed('5');
        due(1, x.law(), "a text");
        due(0, x.count(3), "bytes");
        due(-100, x.law(), "nothing is left of it");
        x.feed('5');
        x.feed('+');
        due(-102, x.law(), "a fault");
        due(0, x.count(3), "bytes");
        due(1, x.feed('6'), "the first byte again");
        due(1, x.law(), "without what stood on the tape ahead of the fault");
        x.child(0, 500, PLAIN);
        due(506, x.height(0, 1), "by the latest law");
    }

    private static void aFaultLeavesTheLaw() {
        says("What is answered so changes nothing. (-100 less its FAULT)");
        DoorPost x = new DoorPost();
        x.child(0, 500, PLAIN);
        due(-101, law(x, "5x"), "a fault ahead of any law");
        due(540, x.height(0, 1), "still without a text");
        due(1, law(x, "5"), "a law");
        due(505, x.height(0, 1), "by the law");
        due(-103, law(x, "6+7x"), "a fault");
        due(-104, law(x, "0?6;"), "a fault in the second line");
        due(-100, law(x, ""), "an empty tape");
        due(505, x.height(0, 1), "still by the law");
        due(1, law(x, "8"), "another law");
        due(508, x.height(0, 1), "by the other law");
    }

    // ---- promise 5: THE LAW is a TEXT

    private static void linesPartedBySemicolons() {
        says("LINES, one or more, parted by ;");
        isFault(0, "");
        isFault(0, ";");
        isFault(0, ";1");
        isText("1");
        isFault(2, "1;");
        isText("1;1");
        isFault(2, "1;;1");
        isFault(4, "1;1;");
        isText(times(59, "1;") + "1");
        isText(times(59, "1;") + "12");
        isFault(120, times(60, "1;"));
        gives(7, times(29, "0?0;") + "7");
        gives(8, times(29, "0?9;") + "1?8");
    }

    private static void lineWithAQuestion() {
        says("LINE: E, or E ? E");
        isText("1?2");
        isFault(0, "?");
        isFault(0, "?1");
        isFault(2, "1?");
        isFault(2, "1??2");
        isFault(2, "1?;2");
        isFault(3, "1?2?3");
        isText("1?2;3?4");
        isFault(7, "1?2;3?4?5");
        isFault(2, "(1?2)");
        isFault(2, "(1;2)");
        isFault(5, "1?(2)?3");
    }

    /** All bytes behind one beginning: those that end a TEXT, those with which one goes on, the rest. */
    private static void behind(String ahead, String ending, String goingOn) {
        for (int start = 0; start < 256; start += 32) {
            DoorPost x = new DoorPost();
            for (int letter = start; letter < start + 32; letter++) {
                for (int i = 0; i < ahead.length(); i++) {
                    x.feed(ahead.charAt(i));
                }
                x.feed(letter);
                int place = ahead.length();
                boolean ends = ending.indexOf((char) letter) >= 0;
                boolean goesOn = goingOn.indexOf((char) letter) >= 0;
                due(ends ? 1 : goesOn ? -101 - place : -100 - place, x.law(), ahead + " and byte " + letter);
            }
        }
    }

    private static void byteByByte() {
        says("FAULT: the place (from 0) of the first byte with which no TEXT goes on; the length, if it ends too early.");
        String operands = "0123456789aswhpmk";
        String digits = "0123456789";
        String openers = "(!-";
        behind("", operands, openers);
        behind("a", "", "|&<=>+-*/%?;");
        behind("1", digits, "|&<=>+-*/%?;");
        behind("123", digits, "|&<=>+-*/%?;");
        behind("1234", "", "|&<=>+-*/%?;");
        behind("(", "", operands + openers);
        behind("(a", ")", "|&<=>+-*/%");
        behind("(1", ")", digits + "|&<=>+-*/%");
        behind("(a)", "", "|&<=>+-*/%?;");
        behind("!", operands, openers);
        behind("-", operands, openers);
        behind("a+", operands, openers);
        behind("a%", operands, openers);
        behind("a<", operands, openers);
        behind("a<s", "", "|&+-*/%?;");
        behind("a|", operands, openers);
        behind("a?", operands, openers);
        behind("a?s", "", "|&<=>+-*/%;");
        behind("a;", operands, openers);
        behind("a;s", "", "|&<=>+-*/%?;");
        behind("a?s;w", "", "|&<=>+-*/%?;");
        behind("((((((", "", operands);
        behind("------", operands, "");
    }

    private static void operatorsWantOperands() {
        says("E = A { | A }. A = B { & B }. S = P { + P, - P }. P = O { * O, / O, % O }.");
        for (String operator : new String[] {"|", "&", "+", "*", "/", "%", "<", "=", ">"}) {
            isText("a" + operator + "s");
            isFault(0, operator);
            isFault(0, operator + "a");
            isFault(2, "a" + operator);
            isFault(2, "a" + operator + "*s");
            isFault(2, "a" + operator + ")");
            isFault(2, "a" + operator + ";s");
        }
        for (String operator : new String[] {"|", "&", "+", "-", "*", "/", "%"}) {
            isText("a" + operator + "s" + operator + "w" + operator + "h");
            isText("a" + times(59, operator + "a"));
            isFault(120, times(60, "a" + operator));
        }
    }

    private static void oneComparison() {
        says("B = S, or S < S, S = S, S > S");
        for (String one : new String[] {"<", "=", ">"}) {
            for (String two : new String[] {"<", "=", ">"}) {
                isFault(3, "a" + one + "s" + two + "w");
                isFault(2, "a" + one + two);
                isText("(a" + one + "s)" + two + "w");
                isText("a" + one + "(s" + two + "w)");
                isText("a" + one + "s&w" + two + "h");
                isText("a" + one + "s|w" + two + "h");
                isText("a" + one + "s?w" + two + "h");
                isText("a" + one + "s;w" + two + "h");
                isFault(4, "(a" + one + "s" + two + "w)");
            }
        }
    }

    private static void numbersOfOneToFourDigits() {
        says("O = a number (1 to 4 digits)");
        isText("0");
        isText("12");
        isText("123");
        isText("1234");
        isText("0000");
        isText("9999");
        isFault(4, "12345");
        isFault(4, "00000");
        isFault(4, "00001");
        isFault(6, "a+12345");
        isFault(1, "1a");
        isFault(1, "a1");
        isFault(4, "1234a");
        gives(12, "0012");
        gives(1, "0001");
        gives(34, "9999-9965");
        gives(10, "1000-990");
    }

    private static void noBlanks() {
        says("No blanks.");
        isFault(0, " ");
        isFault(0, " 1");
        isFault(1, "1 ");
        isFault(1, "1 +1");
        isFault(2, "1+ 1");
        isFault(1, "1\n");
        isFault(1, "1\t");
        isFault(2, "1; 2");
        isFault(1, "( 1)");
        isFault(2, "(1 )");
    }

    private static void sixOpenAtOnce() {
        says("At most 6 of ( ! - ahead of an O are open at once.");
        for (String opener : new String[] {"(", "!", "-"}) {
            for (int n = 1; n <= 6; n++) {
                isText(times(n, opener) + "a" + (opener.equals("(") ? times(n, ")") : ""));
            }
            isFault(6, times(7, opener) + "a");
            isFault(6, times(8, opener));
        }
        isText("(!-(!-a))");
        isFault(6, "(!-(!-!a))");
        isFault(6, "-(-(-((a))))");
        isFault(6, "!(!(!(-a)))");
        isText("!(!(!(a)))");
        isFault(8, "a+((((((-a");
        isFault(8, "((((((a*-a");
        isText("((((((a*a))))))");
        isFault(8, "a?((((((!");
        isFault(8, "a;((((((!");
    }

    private static void closedOnesAreNotOpen() {
        says("open at once");
        isText("((((((a))))))+((((((a))))))");
        isText("------a-------a");
        isFault(14, "------a--------a");
        isText("(((((-a*-a)))))");
        isFault(8, "(((((a*--a)))))");
        isText("(((((" + "(a)-(a)" + ")))))");
        isText("!!!!!!a?!!!!!!a;!!!!!!a");
        isText("(((((a))))+((((a)))))");
    }

    private static void endsTooEarly() {
        says("FAULT: the length, if it ends too early");
        isFault(1, "(");
        isFault(1, "!");
        isFault(1, "-");
        isFault(6, "((((((");
        isFault(2, "(a");
        isFault(12, "((((((a)))))");
        isFault(2, "a+");
        isFault(2, "a?");
        isFault(2, "a;");
        isFault(4, "a?s;");
        isFault(119, times(59, "1+") + "(");
        isFault(120, times(60, "1+"));
    }

    // ---- promise 5: what a TEXT gives

    private static void intsThatWrap() {
        says("Ints that wrap");
        gives(5, "(8192*8192*32<0)*5");
        gives(3, "8192*8192*64+3");
        gives(5, "(8192*8192*32-1>0)*5");
        gives(5, "(8192*8192*32-1+1<0)*5");
        gives(5, "(-(8192*8192*32)<0)*5");
        gives(5, "(-(8192*8192*32)=8192*8192*32)*5");
        gives(5, "(8192*8192*32/-1=8192*8192*32)*5");
        gives(7, "8192*8192*32%-1+7");
        // 9999 * 9999 * 9999 less 233 times 2 to the 32 is -1027349969.
        gives(5, "(9999*9999*9999<0)*5");
        gives(31, "9999*9999*9999%1000+1000");
    }

    private static void divisionTowardZero() {
        says("/ and % toward 0");
        gives(7, "-7/2+10");
        gives(7, "7/-2+10");
        gives(13, "-7/-2+10");
        gives(13, "7/2+10");
        gives(9, "-7%2+10");
        gives(11, "7%-2+10");
        gives(9, "-7%-2+10");
        gives(10, "-1/2+10");
        gives(9, "-1%2+10");
        gives(10, "6%3+10");
        gives(0, "1/2");
    }

    private static void divisionByZero() {
        says("by 0 they give 0");
        gives(9, "5/0+9");
        gives(9, "5%0+9");
        gives(9, "0/0+9");
        gives(9, "0%0+9");
        gives(9, "-5/0+9");
        gives(9, "5/(a-a)+9");
        gives(9, "5%(a-1)+9");
        gives(9, "8192*8192*32/0+9");
    }

    private static void truthIsOneOrZero() {
        says("| & < = > ! give 1, 0");
        gives(5, "(7|0)*5");
        gives(5, "(0|-7)*5");
        gives(5, "(7|9)*5");
        gives(2, "(0|0)*5+2");
        gives(5, "(7&9)*5");
        gives(5, "(4&3)*5");
        gives(2, "(7&0)*5+2");
        gives(2, "(0&7)*5+2");
        gives(5, "(1<2)*5");
        gives(2, "(2<2)*5+2");
        gives(2, "(3<2)*5+2");
        gives(2, "(1=2)*5+2");
        gives(5, "(2=2)*5");
        gives(2, "(1>2)*5+2");
        gives(2, "(2>2)*5+2");
        gives(5, "(3>2)*5");
        gives(5, "(-1<0)*5");
        gives(2, "!7*5+2");
        gives(2, "!-7*5+2");
        gives(7, "!0*5+2");
        gives(7, "!!7*5+2");
        gives(1, "1|5/0+8");
    }

    private static void theLineThatCounts() {
        says("The first LINE without a first E, or whose first E is not 0, counts; none: 0.");
        gives(5, "5;6");
        gives(0, "0;6");
        gives(6, "0?5;6");
        gives(5, "1?5;6");
        gives(5, "-1?5;6");
        gives(5, "9?5;6");
        gives(0, "1?0;6");
        gives(0, "0?5");
        gives(0, "0?5;0?6");
        gives(7, "0?5;0?6;7;8");
        gives(6, "0?5;3?6;7");
        gives(7, "0?5;7;1?6");
        gives(6, "5/0?5;6");
    }

    private static void heldWithin() {
        says("It gives by how many parts one grows in a MONTH (held within 0 .. 99).");
        gives(0, "-1");
        gives(0, "0");
        gives(1, "1");
        gives(98, "98");
        gives(99, "99");
        gives(99, "100");
        gives(99, "9999");
        gives(0, "-9999");
        gives(0, "8192*8192*32");
        gives(99, "8192*8192*32-1");
    }

    private static DoorPost ofLength(int born, int length, int lp, String text) {
        DoorPost x = new DoorPost();
        x.child(10 * born, length, lp);
        due(1, law(x, text), "law of " + text);
        return x;
    }

    private static void nameOfTheAge() {
        says("a the age in MONTHS less LATE");
        due(501, ofLength(7, 500, PLAIN, "a").height(0, 8), "age 1");
        due(503, ofLength(7, 500, PLAIN, "a").height(0, 9), "age 2");
        due(500, ofLength(7, 500, 484300, "a").height(0, 31), "age 24, 24 late");
        due(501, ofLength(7, 500, 484300, "a").height(0, 32), "age 25, 24 late");
        due(525, ofLength(7, 500, 4300, "a").height(0, 8), "age 1, 24 early");
        due(523, ofLength(7, 500, 484300, "-a").height(0, 8), "age 1, 24 late: -23");
    }

    private static void nameOfTheHeight() {
        says("h the HEIGHT so far by 64 (cut)");
        due(639 + 9, ofLength(0, 639, PLAIN, "h").height(0, 1), "639");
        due(640 + 10, ofLength(0, 640, PLAIN, "h").height(0, 1), "640");
        due(639 + 9 + 10, ofLength(0, 639, PLAIN, "h").height(0, 2), "648");
        due(8000, ofLength(0, 2000, PLAIN, "h=125?-1;99").height(0, 599), "8000");
    }

    private static void nameOfTheParents() {
        says("p PARENTS by 64 (cut)");
        due(500 + 46, ofLength(0, 500, 243000, "p").height(0, 1), "3000");
        due(500 + 47, ofLength(0, 500, 243071, "p").height(0, 1), "3071");
        due(500 + 48, ofLength(0, 500, 243072, "p").height(0, 1), "3072");
        due(500 + 93, ofLength(0, 500, 246000, "p").height(0, 1), "6000");
    }

    private static void nameOfTheMonth() {
        says("m the MONTH by 12 (what is left)");
        DoorPost x = ofLength(0, 500, PLAIN, "m");
        due(501, x.height(0, 1), "month 1");
        due(500 + 66, x.height(0, 11), "month 11");
        due(500 + 66, x.height(0, 12), "month 12");
        due(500 + 67, x.height(0, 13), "month 13");
        due(508, ofLength(7, 500, PLAIN, "m").height(0, 8), "it is the month, not the age");
        due(511, ofLength(598, 500, PLAIN, "m").height(0, 599), "month 599");
    }

    private static void otherNames() {
        says("s SEX, w WANT of the MONTH, k the CHILD");
        DoorPost x = ofLength(0, 500, PLAIN, "s*50+k*3+w");
        for (int k = 1; k < 6; k++) {
            x.child(k % 2, 500, PLAIN);
        }
        due(500, x.height(0, 1), "child 0, sex 0");
        due(500 + 53, x.height(1, 1), "child 1, sex 1");
        due(500 + 65, x.height(5, 1), "child 5, sex 1");
        x.want(2003, 9);
        due(500, x.height(0, 1), "the month ahead of a want");
        due(509, x.height(0, 2), "the want's first month");
        due(518, x.height(0, 3), "the want's last month");
        due(518, x.height(0, 4), "the month behind it");
    }

    // ---- promise 6

    private static void withoutAText() {
        says("Without a text: 40 in the first 12 MONTHS (a below 12), 16 (below 132), 20 (below 168), 4 (below 204), 0.");
        DoorPost x = new DoorPost();
        x.child(0, 1280, PLAIN);
        int[][] grown = {{1, 40}, {2, 40}, {11, 40}, {12, 16}, {13, 16}, {131, 16}, {132, 20}, {133, 20}, {167, 20}, {168, 4},
            {169, 4}, {203, 4}, {204, 0}, {205, 0}, {599, 0}};
        for (int[] g : grown) {
            due(g[1], x.height(0, g[0]) - x.height(0, g[0] - 1), "in month " + g[0]);
        }
        due(1280 + 11 * 40 + 120 * 16 + 36 * 20 + 36 * 4, x.height(0, 599), "in all");
    }

    private static void withoutATextLate() {
        says("Without a text: (a below 12) .. (below 204), a less LATE");
        int[][] grown = {{12, 40}, {35, 40}, {36, 16}, {155, 16}, {156, 20}, {191, 20}, {192, 4}, {227, 4}, {228, 0}};
        int[][] early = {{1, 16}, {107, 16}, {108, 20}, {143, 20}, {144, 4}, {179, 4}, {180, 0}};
        DoorPost x = new DoorPost();
        x.child(0, 1280, 484300);
        x.child(0, 1280, 4300);
        for (int[] g : grown) {
            due(g[1], x.height(0, g[0]) - x.height(0, g[0] - 1), "24 late, in month " + g[0]);
        }
        for (int[] g : early) {
            due(g[1], x.height(1, g[0]) - x.height(1, g[0] - 1), "24 early, in month " + g[0]);
        }
    }

    private static void lengthWhenBornAndNothingAhead() {
        says("LENGTH in that in which it is BORN; in each further one as much more as THE LAW gives in it; 0 ahead.");
        DoorPost x = new DoorPost();
        law(x, "7");
        x.child(1000, 500, PLAIN);
        x.child(0, 600, PLAIN);
        x.child(5990, 700, PLAIN);
        int[][] told = {{0, 0, 0}, {0, 98, 0}, {0, 99, 0}, {0, 100, 500}, {0, 101, 507}, {0, 102, 514}, {0, 599, 500 + 7 * 499},
            {1, 0, 600}, {1, 1, 607}, {2, 0, 0}, {2, 598, 0}, {2, 599, 700}};
        for (int[] t : told) {
            due(t[2], x.height(t[0], t[1]), "child " + t[0] + " in month " + t[1]);
        }
        law(x, "99");
        due(500, x.height(0, 100), "at birth no law counts");
    }

    private static void eightThousandAtMost() {
        says("(8000 at most.)");
        DoorPost x = ofLength(0, 2000, PLAIN, "80");
        due(7920, x.height(0, 74), "74 months");
        due(8000, x.height(0, 75), "75 months: just 8000");
        due(8000, x.height(0, 76), "76 months");
        due(8000, x.height(0, 599), "the last month");
        DoorPost y = ofLength(0, 2000, PLAIN, "99");
        due(7940, y.height(0, 60), "60 months");
        due(8000, y.height(0, 61), "61 months: 8039 is too much");
        DoorPost z = ofLength(0, 2000, PLAIN, "a<76?80;h-125");
        due(8000, z.height(0, 599), "held at 8000, h is 125");
    }

    private static void heightArguments() {
        says("HEIGHT of a CHILD in a MONTH. BAD.");
        DoorPost x = new DoorPost();
        x.child(0, 500, PLAIN);
        x.child(5990, 500, PLAIN);
        int[] notChildren = {-1, 2, 5, 6, LEAST, GREATEST};
        for (int child : notChildren) {
            due(BAD, x.height(child, 599), "child " + child);
        }
        int[] notMonths = {-1, 600, LEAST, GREATEST};
        for (int month : notMonths) {
            due(BAD, x.height(0, month), "month " + month);
            due(BAD, x.height(-1, month), "child -1, month " + month);
        }
        due(500, x.height(0, 0), "the first month");
        due(500, x.height(1, 599), "the last month");
        due(0, x.height(1, 0), "0 ahead, not BAD");
    }
}
