/** Promise by promise: ordinary calls, the edges that the document names, and wrong calls. */
public final class PromiseTest {
    private static final int BAD = -1, NOT = -2, FULL = -3, STATE = -5, VOID = -2000000000;
    // LATE 0, PARENTS 4300; and born in MONTH 0 with SEX 0.
    private static final int PLAIN = 244300;
    private static int wrong = 0;
    private static int asked = 0;
    private static String promise = "";

    public static void main(String[] args) {
        newObject();
        child();
        want();
        feed();
        lawTexts();
        lawFaults();
        heightWithoutText();
        heightByNames();
        heightByOperators();
        heightBounds();
        wants();
        mark();
        marks();
        paint();
        of();
        mend();
        off();
        whose();
        odds();
        how();
        together();
        turned();
        led();
        tall();
        year();
        line();
        falls();
        overtakes();
        enough();
        slips();
        undoAndRedo();
        body();
        act();
        trace();
        keep();
        row();
        put();
        element();
        shift();
        taken();
        count();
        System.out.println(wrong == 0 ? asked + " answers are as due" : wrong + " answers are not as due");
        if (wrong != 0) {
            System.exit(1);
        }
    }

    private static void at(String name) {
        promise = name;
    }

    private static void due(long want, long got, String call) {
        asked++;
        if (got != want) {
            wrong++;
            System.out.println("promise " + promise + ": " + call + " answered " + got + ", due is " + want);
        }
    }

    private static int law(DoorPost x, String text) {
        for (int i = 0; i < text.length(); i++) {
            x.feed(text.charAt(i));
        }
        return x.law();
    }

    /** One whose CHILDREN keep their LENGTHS, born in MONTH 10. */
    private static DoorPost still(int... lengths) {
        DoorPost x = new DoorPost();
        law(x, "0");
        for (int length : lengths) {
            x.child(100, length, PLAIN);
        }
        return x;
    }

    private static void newObject() {
        at("1 (a new object)");
        DoorPost x = new DoorPost();
        for (int what = 0; what < 7; what++) {
            due(0, x.count(what), "count " + what);
        }
        due(BAD, x.height(0, 0), "height");
        due(VOID, x.of(0, 0), "of a mark");
        due(VOID, x.of(0, 10), "of a child");
        due(0, x.wants(0), "wants");
        due(STATE, x.undo(), "undo");
        due(STATE, x.redo(), "redo");
        due(BAD, x.trace(0), "trace");
        for (int shelf = 0; shelf < 6; shelf++) {
            due(-11, x.taken(shelf, 0), "taken");
        }
        DoorPost y = new DoorPost();
        x.child(0, 1280, PLAIN);
        due(0, y.count(0), "another object's children");
    }

    private static void child() {
        at("2 (child)");
        DoorPost x = new DoorPost();
        due(BAD, x.child(-1, 1280, PLAIN), "bs -1");
        due(BAD, x.child(-10, 1280, PLAIN), "bs -10");
        due(BAD, x.child(6000, 1280, PLAIN), "born 600");
        due(BAD, x.child(12, 1280, PLAIN), "sex 2");
        due(BAD, x.child(19, 1280, PLAIN), "sex 9");
        due(BAD, x.child(0, 499, PLAIN), "length 499");
        due(BAD, x.child(0, 2001, PLAIN), "length 2001");
        due(BAD, x.child(0, 1280, -1), "lp -1");
        due(BAD, x.child(0, 1280, -4300), "lp -4300");
        due(BAD, x.child(0, 1280, 2999), "parents 2999");
        due(BAD, x.child(0, 1280, 6001), "parents 6001");
        due(BAD, x.child(0, 1280, 494300), "late 25");
        due(BAD, x.child(Integer.MAX_VALUE, 1280, PLAIN), "bs greatest");
        due(BAD, x.child(Integer.MIN_VALUE, 1280, PLAIN), "bs least");
        due(BAD, x.child(0, Integer.MAX_VALUE, PLAIN), "length greatest");
        due(BAD, x.child(0, 1280, Integer.MAX_VALUE), "lp greatest");
        due(0, x.count(0), "children after refusals");
        due(0, x.child(0, 500, 3000), "the first");
        due(1, x.child(5991, 2000, 486000), "the second");
        for (int i = 2; i < 6; i++) {
            due(i, x.child(0, 1280, PLAIN), "child " + i);
        }
        due(FULL, x.child(0, 1280, PLAIN), "the seventh");
        due(BAD, x.child(2, 1280, PLAIN), "BAD ahead of FULL");
        due(6, x.count(0), "children");
        due(500, x.height(0, 0), "the first one's height");
        due(2000, x.height(1, 599), "the second one's height");
    }

    private static void want() {
        at("3 (want)");
        DoorPost x = new DoorPost();
        due(BAD, x.want(-1, 1), "span -1");
        due(BAD, x.want(600, 1), "to 600");
        due(BAD, x.want(1600, 1), "from 1 to 600");
        due(BAD, x.want(600600, 1), "from 600");
        due(BAD, x.want(600000, 1), "from 600 to 0");
        due(BAD, x.want(10009, 1), "to ahead of from");
        due(BAD, x.want(10010, 0), "much 0");
        due(BAD, x.want(10010, 10), "much 10");
        due(BAD, x.want(Integer.MIN_VALUE, 1), "span least");
        due(BAD, x.want(Integer.MAX_VALUE, 1), "span greatest");
        due(0, x.count(1), "wants after refusals");
        due(0, x.want(10010, 1), "one month");
        due(1, x.want(599599, 9), "the last month");
        due(2, x.want(599, 1), "all months");
        for (int i = 3; i < 10; i++) {
            due(i, x.want(100200, 2), "want " + i);
        }
        due(FULL, x.want(0, 1), "the eleventh");
        due(BAD, x.want(0, 0), "BAD ahead of FULL");
        due(10, x.count(1), "wants");
    }

    private static void feed() {
        at("4 (feed)");
        DoorPost x = new DoorPost();
        due(BAD, x.feed(-1), "-1");
        due(BAD, x.feed(256), "256");
        due(1, x.feed(0), "0");
        due(2, x.feed(255), "255");
        for (int i = 3; i <= 120; i++) {
            due(i, x.feed('1'), "byte " + i);
        }
        due(FULL, x.feed('1'), "byte 121");
        due(BAD, x.feed(256), "BAD ahead of FULL");
        due(120, x.count(3), "bytes");
        due(-100, x.law(), "the law of these");
        due(1, x.feed('1'), "the tape is empty then");
    }

    private static void lawTexts() {
        at("5 (law), texts");
        DoorPost x = new DoorPost();
        String[] texts = {"0", "9999", "0000", "a", "s", "w", "h", "p", "m", "k", "!a", "-a", "--a", "!!a", "!-!a",
            "(a)", "((((((a))))))", "------a", "-(-(-(a)))", "a|s|w", "a&s&w", "a<s", "a=s", "a>s", "a<s|w=h&p>m",
            "(a<s)<w", "a+s-w", "a*s/w%h", "a--s", "a+-s", "a*!s", "a?s", "a?s|w", "a|s?w", "a;s", "a?s;w?h;p", "a?s;w", "1;1;1;1",
            "-a+(-a+(-a+(a)))", "(-a)*(-a)*(-a)*(-a)", "!(a)&!(s)", "a<-s", "(a|s)*(w&h)"};
        for (String text : texts) {
            due(1, law(x, text), text);
            due(0, x.count(3), "the tape behind " + text);
        }
        StringBuilder long120 = new StringBuilder("1");
        while (long120.length() < 119) {
            long120.append("+1");
        }
        due(1, law(x, long120 + "1"), "120 bytes");
        x.child(0, 500, PLAIN);
        due(500 + 59 + 11, x.height(0, 1), "the height by 120 bytes");
    }

    private static void lawFaults() {
        at("5 (law), faults");
        Object[][] faults = {{"", 0}, {"?", 0}, {";", 0}, {")", 0}, {"+", 0}, {"*1", 0}, {"b", 0}, {"A", 0}, {" 1", 0},
            {"1 ", 1}, {"1 +1", 1}, {"12345", 4}, {"00000", 4}, {"a1", 1}, {"1a", 1}, {"aa", 1}, {"a(", 1}, {"a!", 1},
            {"(a)b", 3}, {"(a)1", 3}, {"(a)(", 3}, {"()", 1}, {"(", 1}, {"(a", 2}, {"(a;", 2}, {"(a?1)", 2}, {"a)", 1},
            {"(a))", 3}, {"a?", 2}, {"a?b", 2}, {"a?s?", 3}, {"a??", 2}, {"a?;", 2}, {"a;", 2}, {"a;;", 2}, {"a?s;", 4},
            {"a;?", 2}, {"a<s<w", 3}, {"a<s=w", 3}, {"a=s>w", 3}, {"a<s+w<h", 5}, {"a<(s<w<h)", 6}, {"a<s&w<h<p", 7},
            {"a<", 2}, {"a<=s", 2}, {"a+", 2}, {"a+*s", 2}, {"a+)", 2}, {"a||s", 2}, {"a&&s", 2}, {"!", 1}, {"-", 1},
            {"!)", 1}, {"-;", 1}, {"+a", 0}, {"a/%s", 2}, {"((((((a)))))", 12}, {"(((((((a", 6}, {"-------a", 6},
            {"!!!!!!!a", 6}, {"(-(-(-(a", 6}, {"a+(((((((a", 8}, {"-a+(((((((a", 9}, {"((((((-a", 6}, {"a?(((((((", 8}};
        DoorPost x = new DoorPost();
        x.child(0, 1280, PLAIN);
        due(1, law(x, "3"), "a law ahead of all faults");
        for (Object[] fault : faults) {
            due(-100 - (Integer) fault[1], law(x, (String) fault[0]), "" + fault[0]);
            due(0, x.count(3), "the tape behind " + fault[0]);
        }
        x.feed(200);
        due(-100, x.law(), "byte 200");
        x.feed('a');
        x.feed(0);
        due(-101, x.law(), "byte 0");
        due(1283, x.height(0, 1), "a fault leaves the law as it was");
        StringBuilder open = new StringBuilder("1");
        while (open.length() < 119) {
            open.append("+1");
        }
        due(-220, law(x, open + "+"), "120 bytes that end too early");
    }

    private static void heightWithoutText() {
        at("6 (height), without a text");
        DoorPost x = new DoorPost();
        x.child(0, 1280, PLAIN);
        x.child(100, 1280, 484300);
        x.child(100, 1280, 4300);
        int[][] told = {{0, 1280}, {1, 1320}, {11, 1720}, {12, 1736}, {131, 3640}, {132, 3660}, {167, 4360}, {168, 4364},
            {203, 4504}, {204, 4504}, {599, 4504}};
        for (int[] t : told) {
            due(t[1], x.height(0, t[0]), "month " + t[0]);
        }
        due(0, x.height(1, 9), "ahead of birth");
        due(1280, x.height(1, 10), "at birth");
        due(1280 + 35 * 40, x.height(1, 45), "24 late, month 35");
        due(1280 + 35 * 40 + 16, x.height(1, 46), "24 late, month 36");
        due(1280 + 107 * 16, x.height(2, 117), "24 early, month 107");
        due(1280 + 107 * 16 + 20, x.height(2, 118), "24 early, month 108");
        due(BAD, x.height(3, 0), "no such child");
        due(BAD, x.height(-1, 0), "child -1");
        due(BAD, x.height(0, -1), "month -1");
        due(BAD, x.height(0, 600), "month 600");
        due(BAD, x.height(Integer.MIN_VALUE, Integer.MAX_VALUE), "far out");
    }

    private static void heightByNames() {
        at("6 (height), names");
        DoorPost x = new DoorPost();
        x.child(50, 640, 264300);
        x.child(51, 640, 244299);
        law(x, "a");
        // LATE 2: a is -1, 0, 1, 2 in the months behind birth.
        due(640, x.height(0, 7), "a, held at 0");
        due(643, x.height(0, 9), "a");
        due(646, x.height(1, 8), "a, not late");
        law(x, "s*7");
        due(640, x.height(0, 6), "s 0");
        due(647, x.height(1, 6), "s 1");
        law(x, "h");
        due(650, x.height(1, 6), "h");
        due(710, x.height(1, 12), "h, cut");
        due(721, x.height(1, 13), "h, cut, and more");
        law(x, "p-60");
        due(647, x.height(0, 6), "p");
        x.child(50, 640, 245999);
        due(640 + 93 - 60, x.height(2, 6), "p, cut");
        law(x, "m");
        due(640 + 6 + 7 + 8 + 9 + 10 + 11 + 0 + 1, x.height(0, 13), "m");
        law(x, "k*5");
        due(640, x.height(0, 6), "k 0");
        due(650, x.height(2, 6), "k 2");
        law(x, "w*5");
        x.want(7008, 3);
        x.want(8009, 2);
        due(640, x.height(0, 6), "w 0");
        due(655, x.height(0, 7), "w 3");
        due(670, x.height(0, 8), "w 3, the greater");
        due(680, x.height(0, 9), "w 2");
        due(680, x.height(0, 599), "w 0 behind");
    }

    private static void heightByOperators() {
        at("6 (height), operators");
        Object[][] values = {{"7-10+20", 17}, {"20-5-4", 11}, {"2+3*4", 14}, {"(2+3)*4", 20}, {"20/6", 3}, {"20%6", 2},
            {"60/6/5", 2}, {"60/6*5", 50}, {"5/0+9", 9}, {"5%0+9", 9}, {"-7/2+10", 7}, {"-7%2+10", 9}, {"7/-2+10", 7},
            {"7%-2+10", 11}, {"!0*5", 5}, {"!7+3", 3}, {"!!7", 1}, {"--7", 7}, {"-3*-4", 12}, {"2--3", 5},
            {"(2<3)*5", 5}, {"(3<3)+2", 2}, {"(3=3)*5", 5}, {"(3=4)+2", 2}, {"(4>3)*5", 5}, {"(3>3)+2", 2},
            {"(0|7)*5", 5}, {"(0|0)+2", 2}, {"(7|0)*5", 5}, {"(2&3)*5", 5}, {"(2&0)+2", 2}, {"(0&2)+2", 2},
            {"1|0&0", 1}, {"(1|0)&0", 0}, {"0&0|1", 1}, {"2+2<5", 1}, {"5<2+2", 0}, {"1<2&3<2", 0}, {"(-2&-3)*4", 4},
            {"7|0", 1}, {"7&9", 1}, {"(8192*8192*32<0)*5", 5}, {"(8192*8192*32/-1<0)*5", 5},
            {"8192*8192*32%-1+7", 7}, {"8192*8192*64+3", 3}, {"(8192*8192*32-1>0)*6", 6}, {"(-(8192*8192*32)<0)*4", 4},
            {"0012", 12}, {"0?50;7", 7}, {"1?50;7", 50}, {"-1?50;7", 50}, {"0?50", 0}, {"0|1?0|5;9", 1}, {"1?2;0|5", 2}, {"0?50;0?60;0?70;8", 8},
            {"5;6", 5}, {"0;6", 0}, {"0?1;5;6", 5}, {"a<2?9;a<3?8;7", 9}, {"0-5", 0}, {"100", 99}, {"99", 99}, {"98", 98},
            {"9999", 99}, {"-1", 0}};
        for (Object[] value : values) {
            DoorPost x = new DoorPost();
            x.child(0, 1280, PLAIN);
            due(1, law(x, (String) value[0]), "" + value[0]);
            due(1280 + (Integer) value[1], x.height(0, 1), "the first month by " + value[0]);
        }
        DoorPost x = new DoorPost();
        x.child(0, 1280, PLAIN);
        law(x, "a<2?9;a<3?8;7");
        due(1280 + 9 + 8 + 7 + 7, x.height(0, 4), "line by line");
    }

    private static void heightBounds() {
        at("6 (height), 8000 at most");
        DoorPost x = new DoorPost();
        x.child(0, 2000, PLAIN);
        law(x, "99");
        due(7940, x.height(0, 60), "60 months");
        due(8000, x.height(0, 61), "61 months");
        due(8000, x.height(0, 599), "to the end");
        law(x, "h>124?0;99");
        due(7940, x.height(0, 60), "60 months");
        due(8000, x.height(0, 61), "held, so h is 125");
    }

    private static void wants() {
        at("7 (wants)");
        DoorPost x = new DoorPost();
        due(BAD, x.wants(-1), "-1");
        due(BAD, x.wants(600), "600");
        x.want(10020, 3);
        x.want(15030, 2);
        x.want(20020, 9);
        x.want(599599, 4);
        x.want(1, 1);
        int[][] told = {{9, 0}, {10, 3}, {15, 3}, {19, 3}, {20, 9}, {21, 2}, {30, 2}, {31, 0}, {598, 0}, {599, 4}, {0, 1},
            {1, 1}, {2, 0}};
        for (int[] t : told) {
            due(t[1], x.wants(t[0]), "month " + t[0]);
        }
        due(BAD, x.want(21020, 9), "a refused want");
        due(2, x.wants(21), "is none");
        due(5, x.count(1), "wants");
    }

    private static void mark() {
        at("8 (mark)");
        DoorPost x = new DoorPost();
        due(BAD, x.mark(-1, 0, 0), "height -1");
        due(BAD, x.mark(10000, 0, 0), "height 10000");
        due(BAD, x.mark(0, -1, 0), "nw -1");
        due(BAD, x.mark(0, 5, 0), "way 5");
        due(BAD, x.mark(0, 70, 0), "name 7");
        due(BAD, x.mark(0, 0, -1), "month -1");
        due(BAD, x.mark(0, 0, 601), "month 601");
        due(BAD, x.mark(Integer.MAX_VALUE, Integer.MIN_VALUE, 0), "far out");
        due(0, x.count(2), "marks after refusals");
        due(0, x.mark(0, 0, 0), "the least");
        due(1, x.mark(9999, 64, 600), "the greatest");
        due(2, x.mark(5, 54, 599), "a name without a child");
        for (int i = 3; i < 30; i++) {
            due(i, x.mark(i, 60, i), "mark " + i);
        }
        due(FULL, x.mark(0, 0, 0), "the 31st");
        due(BAD, x.mark(0, 5, 0), "BAD ahead of FULL");
        due(30, x.count(2), "marks");
    }

    private static void fill(DoorPost x, int shelf, long... values) {
        x.row(shelf, 1, values.length);
        for (int i = 0; i < values.length; i++) {
            x.put(shelf, i, values[i]);
        }
    }

    private static void marks() {
        at("9 (marks)");
        DoorPost x = new DoorPost();
        due(BAD, x.marks(-1, 0, 1), "shelf -1");
        due(BAD, x.marks(6, 0, 1), "shelf 6");
        due(BAD, x.marks(0, 0, 0), "n 0");
        due(BAD, x.marks(0, 0, 16), "n 16");
        due(0, x.marks(0, 0, 1), "nothing there");
        due(0, x.marks(0, 99, 15), "nothing there");
        for (int sort = 0; sort < 5; sort++) {
            x.row(1, sort, 8);
            due(sort == 1 ? 2 : -12, x.marks(1, 0, 2), "a row of sort " + sort);
        }
        x.body(0);
        x.keep(1, 0);
        due(-12, x.marks(1, 0, 1), "a mark of acts");
        due(BAD, x.marks(1, 0, 16), "BAD ahead of -12");
        marksFromPlacesThatAreNotThere();

        DoorPost y = new DoorPost();
        fill(y, 2, 9999, 6, 600, 4, 100, 0, 1, 2, 200, 5, 599, 3, 7, 7);
        due(3, y.marks(2, 0, 4), "the fourth ends within");
        due(9999, y.of(0, 0), "height");
        due(6, y.of(0, 1), "name");
        due(600, y.of(0, 2), "month");
        due(4, y.of(0, 3), "way");
        due(100, y.of(1, 0), "the second's height");
        due(3, y.of(2, 3), "the third's way");
        due(1, y.marks(2, 4, 1), "n 1");
        due(100, y.of(3, 0), "from place 4");
        due(0, y.marks(2, 11, 1), "three are too few");
        due(1, y.marks(2, 8, 15), "from place 8");
        due(0, y.marks(2, 14, 1), "behind the end");
        due(0, y.marks(2, Integer.MAX_VALUE, 15), "far behind the end");
        due(5, y.count(2), "marks");
        long[][] notSo = {{-1, 0, 0, 0}, {10000, 0, 0, 0}, {0, -1, 0, 0}, {0, 7, 0, 0}, {0, 0, -1, 0}, {0, 0, 601, 0},
            {0, 0, 0, -1}, {0, 0, 0, 5}};
        for (long[] four : notSo) {
            fill(y, 3, 1, 1, 1, 1, four[0], four[1], four[2], four[3], 1, 1, 1, 1);
            int before = y.count(2);
            due(1, y.marks(3, 0, 3), "one that is not so");
            due(before + 1, y.count(2), "the one ahead came");
        }
        long[] many = new long[60];
        fill(y, 4, many);
        due(15, y.marks(4, 0, 15), "fifteen");
        due(28, y.count(2), "marks");
        due(2, y.marks(4, 0, 15), "until full");
        due(0, y.marks(4, 0, 15), "full");
        due(30, y.count(2), "marks");
    }

    /** No place makes a call BAD: the row has ended there, if it is one of shorts or missing. */
    private static void marksFromPlacesThatAreNotThere() {
        DoorPost x = new DoorPost();
        x.body(0);
        for (int i : new int[] {Integer.MIN_VALUE, -5, -4, -1, 8, 60, Integer.MAX_VALUE}) {
            x.keep(0, -1);
            due(0, x.marks(0, i, 15), "nothing there, place " + i);
            x.keep(0, 0);
            due(-12, x.marks(0, i, 1), "a mark of acts, place " + i);
            for (int sort = 0; sort < 5; sort++) {
                x.row(0, sort, 8);
                due(sort == 1 ? 0 : -12, x.marks(0, i, 15), "a row of sort " + sort + ", place " + i);
            }
            due(BAD, x.marks(0, i, 0), "n 0, place " + i);
            due(BAD, x.marks(0, i, 16), "n 16, place " + i);
            due(BAD, x.marks(-1, i, 1), "shelf -1, place " + i);
            due(BAD, x.marks(6, i, 1), "shelf 6, place " + i);
        }
        due(0, x.count(2), "marks");
    }

    private static void paint() {
        at("10 (paint)");
        DoorPost x = new DoorPost();
        due(BAD, x.paint(-1), "-1");
        due(BAD, x.paint(600), "600");
        due(0, x.paint(599), "no marks");
        DoorPost w = new DoorPost();
        w.mark(1, 60, 600);
        due(0, w.of(0, 4), "no paint yet");
        due(1, w.paint(0), "no month");
        DoorPost y = new DoorPost();
        y.mark(1, 60, 100);
        y.mark(1, 60, 101);
        y.mark(1, 60, 600);
        due(0, y.of(0, 4), "no paint yet");
        due(2, y.paint(100), "a month that is it, and none");
        due(1, y.of(0, 4), "month 100");
        due(0, y.of(1, 4), "month 101");
        due(1, y.of(2, 4), "no month, ahead of the paint");
        y.mark(1, 60, 600);
        y.mark(1, 60, 99);
        due(0, y.of(3, 4), "no month, behind the paint");
        due(1, y.of(4, 4), "an earlier month, told behind the paint");
        due(4, y.paint(0), "earlier paint uncovers none");
        due(1, y.of(3, 4), "no month, ahead of the second paint");
        due(5, y.paint(599), "all");
    }

    private static void of() {
        at("11 (of)");
        DoorPost x = new DoorPost();
        x.mark(4321, 53, 77);
        x.child(1231, 1501, 13456);
        int[] told = {4321, 5, 77, 3, 0};
        int[] toldOfChild = {123, 1, 1501, -23, 3456};
        for (int what = 0; what < 5; what++) {
            due(told[what], x.of(0, what), "mark, " + what);
            due(toldOfChild[what], x.of(0, 10 + what), "child, " + what);
            due(VOID, x.of(1, what), "no such mark");
            due(VOID, x.of(1, 10 + what), "no such child");
            due(VOID, x.of(-1, what), "mark -1");
            due(VOID, x.of(-1, 10 + what), "child -1");
        }
        int[] not = {-1, 5, 9, 15, Integer.MAX_VALUE, Integer.MIN_VALUE};
        for (int what : not) {
            due(VOID, x.of(0, what), "what " + what);
        }
    }

    private static void mend() {
        at("12 (mend)");
        DoorPost x = new DoorPost();
        x.mark(100, 61, 5);
        x.child(0, 1280, PLAIN);
        int[][] wrongOnes = {{0, 0, -1}, {0, 0, 10000}, {1, 0, 5}, {-1, 0, 5}, {0, 1, -1}, {0, 1, 5}, {1, 1, 0}, {0, 2, -25},
            {0, 2, 25}, {1, 2, 0}, {0, 3, 2999}, {0, 3, 6001}, {1, 3, 4000}, {-1, 3, 4000}, {0, -1, 0}, {0, 4, 0}};
        for (int[] w : wrongOnes) {
            due(VOID, x.mend(w[0], w[1], w[2]), "mend " + w[0] + " " + w[1] + " " + w[2]);
        }
        due(0, x.count(4), "changes after refusals");
        due(100, x.mend(0, 0, 9999), "height");
        due(9999, x.mend(0, 0, 0), "height again");
        due(0, x.of(0, 0), "height now");
        due(1, x.mend(0, 1, 4), "way");
        due(4, x.mend(0, 1, 0), "way again");
        due(0, x.mend(0, 2, -24), "late");
        due(-24, x.mend(0, 2, 24), "late again");
        due(24, x.of(0, 13), "late now");
        due(1280 + 35 * 40, x.height(0, 35), "heights by the new late");
        due(4300, x.mend(0, 3, 3000), "parents");
        due(3000, x.mend(0, 3, 6000), "parents again");
        due(6000, x.of(0, 14), "parents now");
        due(8, x.count(4), "changes");
        due(6000, x.mend(0, 3, 6000), "the same is no change");
        due(8, x.count(4), "changes then");
        law(x, "p-60");
        x.mend(0, 3, 4300);
        due(1287, x.height(0, 1), "heights by the new parents");
    }

    private static void off() {
        at("13 (off)");
        DoorPost x = still(1000, 500, 1056);
        x.mark(1100, 60, 600);
        x.mark(0, 60, 600);
        int[] byWay = {100, 52, 28, 124, 76};
        for (int way = 0; way < 5; way++) {
            due(byWay[way], x.off(0, 10, way), "way " + way);
        }
        due(524, x.off(10, 10, 0) - x.off(10, 10, 3) + 500, "24 less");
        due(1000, x.off(10, 599, 0), "below the height");
        due(512, x.off(11, 10, 4), "500 is nearest to 8 inches");
        due(1088, x.off(12, 10, 4), "of halves the one above");
        due(NOT, x.off(0, 9, 0), "not born");
        x.mark(700, 60, 600);
        due(300, x.off(20, 10, 0), "another mark");
        due(200, x.off(21, 10, 0), "another mark, another child");
        due(BAD, x.off(3, 10, 0), "no such child");
        due(BAD, x.off(30, 10, 0), "no such mark");
        due(BAD, x.off(-1, 10, 0), "mc -1");
        due(BAD, x.off(0, -1, 0), "month -1");
        due(BAD, x.off(0, 600, 0), "month 600");
        due(BAD, x.off(0, 10, -1), "way -1");
        due(BAD, x.off(0, 10, 5), "way 5");
        due(BAD, x.off(0, 9, 5), "BAD ahead of NOT");
        DoorPost y = still(1055);
        y.mark(0, 60, 600);
        due(1024, y.off(0, 10, 4), "just below a half");
    }

    private static void whose() {
        at("14 (whose)");
        DoorPost x = new DoorPost();
        law(x, "10");
        x.child(100, 1000, PLAIN);
        x.child(50, 950, PLAIN);
        x.child(50, 950, PLAIN);
        // 0 has 1000 + 10 (t - 10); 1 and 2 have 950 + 10 (t - 5): from month 10 on all are like.
        int[][] told = {
            // height, nw, month: child, month, off
            {1000, 60, 600, 0, 10, 0}, {990, 60, 600, 1, 9, 0}, {945, 60, 600, 1, 5, 5}, {1000, 20, 600, 2, 10, 0},
            {1000, 40, 600, 0, 10, 0}, {1000, 60, 9, 1, 9, 10}, {1000, 20, 9, 2, 9, 10}, {1000, 60, 4, NOT, NOT, NOT},
            {1000, 0, 9, NOT, NOT, NOT}, {1048, 61, 600, 0, 10, 0}, {1128, 62, 600, 0, 10, 0}, {976, 63, 600, 0, 10, 0},
            {1024, 64, 600, 0, 10, 0}, {9999, 60, 600, 0, 599, 3109}, {1005, 60, 600, 0, 10, 5}, {995, 60, 600, 1, 9, 5},
            {0, 60, 599, 0, 599, 6890}, {0, 10, 600, 1, 5, 950}};
        for (int i = 0; i < told.length; i++) {
            due(i, x.mark(told[i][0], told[i][1], told[i][2]), "mark");
            for (int what = 0; what < 3; what++) {
                due(told[i][3 + what], x.whose(i, what), "mark " + i + ", what " + what);
            }
        }
        x.child(0, 1000, PLAIN);
        due(3, x.whose(0, 0), "one more child");
        due(0, x.whose(0, 1), "one more child");
        due(2, x.whose(3, 0), "named");
        due(3, x.whose(4, 0), "named, without a child");
        due(BAD, x.whose(18, 0), "no such mark");
        due(BAD, x.whose(-1, 0), "mark -1");
        due(BAD, x.whose(7, -1), "what -1");
        due(BAD, x.whose(7, 3), "BAD ahead of NOT");
        x.child(0, 1000, PLAIN);
        due(4, x.whose(4, 0), "the name's child came");
        x.mend(4, 2, 5);
        x.mend(0, 0, 1010);
        due(1, x.whose(0, 1), "by the mended height");
        DoorPost y = new DoorPost();
        y.mark(1000, 60, 600);
        due(NOT, y.whose(0, 0), "no children");
    }

    private static void odds() {
        at("15 (odds)");
        DoorPost x = still(1000, 1100, 1100);
        x.child(200, 1000, PLAIN);
        x.mark(1000, 60, 10);
        x.mark(1000, 60, 600);
        x.mark(1000, 60, 9);
        x.mark(1100, 10, 10);
        x.mark(1100, 50, 10);
        x.mark(1048, 1 + 60, 10);
        // 10000 / 1, 10000 / 101 = 99, 99: of 10198.
        due(980, x.odds(0), "the likeliest");
        due(9, x.odds(1), "one farther off");
        due(9, x.odds(2), "another");
        due(0, x.odds(3), "one that is not born");
        due(NOT, x.odds(10), "no month");
        due(NOT, x.odds(20), "none is born");
        due(0, x.odds(30), "named otherwise");
        due(1000, x.odds(31), "its name");
        due(497, x.odds(41), "a name without a child: all may be");
        due(4, x.odds(40), "a name without a child: all may be");
        due(980, x.odds(50), "by its way");
        x.mark(928, 60, 10);
        // 10000 by 73 and twice by 173, cut: 136, 57, 57.
        due(544, x.odds(60), "each is cut");
        due(228, x.odds(61), "each is cut");
        due(BAD, x.odds(4), "no such child");
        due(BAD, x.odds(70), "no such mark");
        due(BAD, x.odds(-1), "mc -1");
        due(BAD, x.odds(14), "BAD ahead of NOT");
    }

    private static void how() {
        at("16 (how)");
        DoorPost x = still(1024);
        due(BAD, x.how(0, 0), "no such mark");
        // By ways 0 to 4 the height is taken for 1024, 1072, 1152, 1000, 1024.
        int[][] told = {{1024, 60, 0, 0}, {1070, 60, 1, 1}, {1150, 60, 2, 1}, {1000, 60, 3, 0}, {1152, 62, 2, 0},
            {1024, 63, 0, 0}, {1048, 60, 0, 0}, {1012, 60, 0, 0}, {1112, 62, 1, 0}, {1096, 62, 1, 1}, {1024, 64, 0, 0},
            {1064, 60, 1, 1}, {1063, 60, 1, 0}, {1064, 64, 1, 1}};
        for (int i = 0; i < told.length; i++) {
            x.mark(told[i][0], told[i][1], 20);
            due(told[i][2], x.how(i, 0), "how, " + told[i][0] + " by " + told[i][1]);
            due(told[i][3], x.how(i, 1), "wrong, " + told[i][0] + " by " + told[i][1]);
        }
        x.mark(1024, 60, 9);
        due(NOT, x.how(14, 0), "none is born");
        due(NOT, x.how(14, 1), "none is born");
        due(BAD, x.how(14, -1), "what -1");
        due(BAD, x.how(14, 2), "what 2");
        due(BAD, x.how(-1, 0), "mark -1");
        DoorPost z = still(1056);
        // 1056, 1104, 1184, 1032, 1088.
        z.mark(1085, 60, 20);
        due(4, z.how(0, 0), "rounded");
        due(0, z.how(0, 1), "26 nearer");
        DoorPost y = new DoorPost();
        law(y, "10");
        y.child(100, 1000, PLAIN);
        y.child(100, 1300, PLAIN);
        y.mark(1352, 60, 600);
        y.mark(1352, 0, 600);
        // WHOSE: child 1 in month 15 (1350); child 0 in month 45 (1350).
        due(1, y.whose(0, 0), "whose");
        due(0, y.how(0, 0), "by whose it is");
        due(0, y.whose(1, 0), "whose, named");
        due(45, y.whose(1, 1), "the month");
        due(0, y.how(1, 0), "by its name");
    }

    private static void together() {
        at("17 (together)");
        DoorPost x = still(1000, 1100, 1200);
        x.child(200, 1000, PLAIN);
        due(0, x.together(10, -1), "no marks");
        due(BAD, x.together(10, 0), "no such mark");
        x.mark(1100, 60, 10);
        x.mark(1090, 60, 10);
        x.mark(1100, 0, 10);
        x.mark(1100, 50, 10);
        x.mark(1100, 60, 600);
        x.mark(1100, 60, 11);
        // 0: 1100 to child 1, 1090 to child 0 is 0 + 90; to 1 and 2 is 10 + 100; to 0 and 1 is 100 + 10.
        due(90, x.together(10, -1), "the sum");
        due(1, x.together(10, 0), "the first");
        due(0, x.together(10, 1), "the second");
        due(BAD, x.together(10, 2), "no third");
        due(1, x.together(11, 0), "another month");
        due(BAD, x.together(-1, -1), "month -1");
        due(BAD, x.together(600, -1), "month 600");
        due(BAD, x.together(10, -2), "i -2");
        x.mark(1100, 61, 10);
        x.mark(1000, 60, 10);
        due(NOT, x.together(10, -1), "four marks, three that are born");
        due(NOT, x.together(10, 3), "four marks, three that are born");
        due(BAD, x.together(10, 4), "BAD ahead of NOT");
        due(0, new DoorPost().together(10, -1), "no marks, no children");
        DoorPost none = new DoorPost();
        none.mark(1, 60, 10);
        due(NOT, none.together(10, -1), "no children");
        DoorPost y = still(1000, 1000, 1000, 1000, 1000);
        for (int i = 0; i < 5; i++) {
            y.mark(1000 + i, 60, 30);
        }
        due(0 + 1 + 2 + 3, y.together(30, -1), "four at most");
        for (int i = 0; i < 4; i++) {
            due(i, y.together(30, i), "of like ones the first");
        }
        due(BAD, y.together(30, 4), "no fifth");
        due(BAD, y.together(9, 0), "none in that month");
        y.mark(1000, 60, 9);
        due(NOT, y.together(9, -1), "none is born");
        DoorPost z = still(1048, 1128);
        z.mark(1128, 62, 10);
        z.mark(1176, 61, 10);
        due(48 + 0, z.together(10, -1), "by their ways");
        due(0, z.together(10, 0), "by their ways");
        due(1, z.together(10, 1), "by their ways");
    }

    private static void turned() {
        at("18 (turned)");
        DoorPost x = still(1000, 1000);
        due(0, x.turned(0, 0), "no marks");
        due(NOT, x.turned(0, 1), "no marks");
        x.mark(1000, 0, 600);
        x.mark(900, 10, 40);
        x.mark(900, 0, 40);
        x.mark(1000, 0, 30);
        x.mark(1000, 0, 41);
        x.mark(1001, 0, 42);
        x.mark(500, 60, 43);
        x.mark(999, 0, 30);
        due(2, x.turned(0, 0), "lower, and as high");
        due(2, x.turned(0, 1), "the first by its number");
        due(0, x.turned(1, 0), "another child");
        due(NOT, x.turned(1, 1), "another child");
        x.mark(900, 10, 39);
        x.mark(800, 10, 41);
        due(2, x.turned(1, 0), "as high, and lower");
        due(1, x.turned(1, 1), "the first");
        DoorPost y = still(1000);
        y.mark(900, 0, 40);
        y.mark(900, 0, 39);
        due(1, y.turned(0, 0), "the first of all marks is turned");
        due(0, y.turned(0, 1), "the first of all marks is turned");
        DoorPost z = still(1000);
        z.mark(900, 0, 39);
        z.mark(900, 0, 40);
        due(1, z.turned(0, 0), "by the first of all marks");
        due(1, z.turned(0, 1), "by the first of all marks");
        due(BAD, x.turned(2, 0), "no such child");
        due(BAD, x.turned(-1, 0), "child -1");
        due(BAD, x.turned(0, -1), "what -1");
        due(BAD, x.turned(0, 2), "what 2");
    }

    private static void led() {
        at("19 (led)");
        DoorPost x = still(1000, 1100);
        due(0, x.led(0), "no marks");
        x.mark(1000, 60, 600);
        x.mark(1100, 60, 600);
        x.mark(1050, 60, 600);
        x.mark(1000, 10, 600);
        x.mark(1000, 60, 9);
        x.mark(1100, 50, 10);
        x.paint(599);
        due(2, x.led(0), "nearest, and the first of like ones");
        due(3, x.led(1), "nearest, and named");
        due(BAD, x.led(2), "no such child");
        due(BAD, x.led(-1), "child -1");
    }

    private static void tall() {
        at("20 (tall)");
        DoorPost x = new DoorPost();
        law(x, "10");
        x.child(0, 1000, PLAIN);
        x.child(5751, 1000, PLAIN);
        x.child(5760, 1000, PLAIN);
        x.child(3590, 1000, PLAIN);
        x.child(3600, 1000, PLAIN);
        due(3400, x.tall(0, 0), "end");
        due(2480, x.tall(0, 1), "twice");
        due(4140, x.tall(0, 2), "by parents, sex 0");
        due(920, x.tall(0, 3), "end less twice");
        due(-740, x.tall(0, 4), "end less by parents");
        due(1240, x.tall(1, 0), "end at 599");
        due(2480, x.tall(1, 1), "twice at 599");
        due(4460, x.tall(1, 2), "by parents, sex 1");
        due(-1240, x.tall(1, 3), "end less twice");
        due(NOT, x.tall(2, 1), "twice is beyond 599");
        due(VOID, x.tall(2, 3), "twice is beyond 599");
        due(1230 - 4140, x.tall(2, 4), "end less by parents");
        due(3400, x.tall(3, 0), "end just at 599");
        due(3390, x.tall(4, 0), "end would be at 600");
        due(VOID, x.tall(5, 0), "no such child");
        due(VOID, x.tall(-1, 0), "child -1");
        due(VOID, x.tall(0, -1), "what -1");
        due(VOID, x.tall(0, 5), "what 5");
    }

    private static void year() {
        at("21 (year)");
        DoorPost x = new DoorPost();
        x.child(0, 1000, PLAIN);
        x.child(5870, 1000, PLAIN);
        x.child(5880, 1000, PLAIN);
        law(x, "a<13?1;a<25?3;a<37?0;a<49?3;a>228&a<241?0;a>240?50;1");
        due(1, x.year(0, 0), "of most, the first");
        due(36, x.year(0, 1), "how much");
        due(2, x.year(0, 2), "of least, the first");
        due(0, x.year(0, 3), "how much");
        due(0, x.year(1, 0), "the one year that is there");
        due(12, x.year(1, 1), "how much");
        due(0, x.year(1, 2), "the one year that is there");
        due(12, x.year(1, 3), "how much");
        for (int what = 0; what < 4; what++) {
            due(NOT, x.year(2, what), "no year is there");
        }
        law(x, "a>228&a<241?5;1");
        due(19, x.year(0, 0), "the twentieth");
        due(60, x.year(0, 1), "how much");
        due(BAD, x.year(2, 4), "BAD ahead of NOT");
        due(BAD, x.year(0, -1), "what -1");
        due(BAD, x.year(3, 0), "no such child");
        due(BAD, x.year(-1, 0), "child -1");
    }

    private static void line() {
        at("22 (line)");
        DoorPost x = still(1280, 500, 2000, 1332, 1331);
        int[] lines = {0, -15, 14, 1, 0};
        for (int i = 0; i < 5; i++) {
            due(lines[i], x.line(i, 10), "child " + i);
        }
        due(-1000, x.line(0, 9), "not born");
        due(VOID, x.line(5, 10), "no such child");
        due(VOID, x.line(-1, 10), "child -1");
        due(VOID, x.line(0, -1), "month -1");
        due(VOID, x.line(0, 600), "month 600");
        DoorPost first = new DoorPost();
        first.child(0, 2000, PLAIN);
        due(14, first.line(0, 0), "in month 0");
        DoorPost y = new DoorPost();
        y.child(121, 1280, 484300);
        y.child(120, 1280, 244800);
        y.want(0 * 1000 + 599, 9);
        law(y, "k*10");
        due(-8, y.line(0, 22), "k is 6: 128000 by 1880 is 68");
        law(y, "s*20");
        due(0, y.line(0, 22), "its sex");
        law(y, "w*10");
        due(17, y.line(1, 22), "without want: 2180 by 1280");
        law(y, "p-60");
        due(1, y.line(1, 22), "parents 4300: 1430 (p 75: 15 a month) by 1350 (7 a month): 105");
        law(y, "a>5?20;0");
        due(-2, y.line(0, 22), "late 0: 128000 by 1380 is 92, 8 below");
        law(y, "m=0?99;0");
        due(0, y.line(0, 30), "in the same months");
    }

    private static void falls() {
        at("23 (falls)");
        DoorPost x = new DoorPost();
        x.child(50, 1280, PLAIN);
        x.child(50, 1280, PLAIN);
        x.child(5990, 1280, PLAIN);
        law(x, "k*10");
        // 0: 128000 by 1340 is 95, by 1400 is 91: LINES 0, -1, -2.
        due(7, x.falls(0), "two below the first");
        law(x, "k=6?99;0");
        due(6, x.falls(0), "in the first month behind birth: 128000 by 1379 is 92");
        law(x, "30");
        due(NOT, x.falls(0), "along one line");
        due(NOT, x.falls(2), "born in the last month");
        law(x, "k=1?(a<11)*26");
        due(NOT, x.falls(1), "it rises and stays");
        // LINE rises to ((1280 + 260) * 100 / 1280 - 100) / 4 = 5, then the other catches up by 26 a month.
        law(x, "k=6?(a>20)*26;(a<11)*26");
        due(5 + 22, x.falls(1), "two below the greatest: by 1306 it is 117, by 1332 it is 115");
        due(BAD, x.falls(3), "no such child");
        due(BAD, x.falls(-1), "child -1");
        DoorPost y = new DoorPost();
        y.child(50, 2000, PLAIN);
        y.child(0, 1280, PLAIN);
        law(y, "0");
        due(NOT, y.falls(0), "ahead of birth there is no line to be below, though the first one is 14");
        law(y, "k=6&a>598?99;0");
        due(599, y.falls(1), "in the last month");
        law(y, "k=6&a>599?99;0");
        due(NOT, y.falls(1), "behind the last month");
    }

    private static void overtakes() {
        at("24 (overtakes)");
        DoorPost x = new DoorPost();
        law(x, "k*10");
        x.child(50, 1280, PLAIN);
        x.child(50, 1250, PLAIN);
        x.child(100, 1320, PLAIN);
        x.child(100, 1320, PLAIN);
        x.child(0, 500, PLAIN);
        // 0: 1280. 1: 1250 + 10 (t - 5). 2: 1320 + 20 (t - 10), 3: 1320 + 30 (t - 10).
        due(9, x.overtakes(10), "higher by then, as high in the month ahead");
        due(NOT, x.overtakes(1), "the other way round");
        due(NOT, x.overtakes(20), "higher at birth");
        due(NOT, x.overtakes(12), "higher never");
        due(11, x.overtakes(32), "in the first month behind both births");
        due(NOT, x.overtakes(23), "never");
        due(20, x.overtakes(40), "500 + 40 t is above 1280 then");
        due(BAD, x.overtakes(0), "one and the same");
        due(BAD, x.overtakes(11), "one and the same");
        due(BAD, x.overtakes(5), "no such child");
        due(BAD, x.overtakes(50), "no such child");
        due(BAD, x.overtakes(-1), "cd -1");
        DoorPost last = new DoorPost();
        last.child(0, 1280, PLAIN);
        last.child(0, 1280, PLAIN);
        law(last, "k=0&a>598?5;0");
        due(599, last.overtakes(1), "in the last month");
        law(last, "k=0&a>599?5;0");
        due(NOT, last.overtakes(1), "behind the last month");
        DoorPost y = new DoorPost();
        law(y, "m=0&k=0?99;k=1");
        y.child(0, 1000, PLAIN);
        y.child(0, 1000, PLAIN);
        due(12, y.overtakes(1), "the first of several");
    }

    private static void enough() {
        at("25 (enough)");
        DoorPost x = new DoorPost();
        law(x, "20-w");
        x.child(100, 1280, PLAIN);
        due(-9 * 10, x.enough(0, 20029, 9), "ten months of nine");
        due(0, x.enough(0, 10, 9), "up to birth");
        due(-1, x.enough(0, 10011, 1), "the month behind birth");
        due(-1, x.enough(0, 250599, 1), "the end's month");
        due(0, x.enough(0, 251599, 9), "behind the end");
        for (int i = 0; i < 10; i++) {
            x.want(20029, 4);
        }
        due(-5 * 10, x.enough(0, 20029, 9), "what it is more, full or not");
        due(0, x.enough(0, 20029, 3), "less than there is");
        due(10, x.count(1), "the wants stay");
        due(4, x.wants(20), "the want stays");
        due(1280 + 20 * 10 - 4, x.height(0, 20), "the heights stay");
        due(VOID, x.enough(1, 20029, 9), "no such child");
        due(VOID, x.enough(-1, 20029, 9), "child -1");
        due(VOID, x.enough(0, 20019, 9), "to ahead of from");
        due(VOID, x.enough(0, -1, 9), "span -1");
        due(VOID, x.enough(0, 600, 9), "to 600");
        due(VOID, x.enough(0, 600600, 9), "from 600");
        due(VOID, x.enough(0, 20029, 0), "much 0");
        due(VOID, x.enough(0, 20029, 10), "much 10");
        law(x, "20+w");
        due(5 * 10, x.enough(0, 20029, 9), "more by want");
        x.child(101, 1280, 246000);
        x.child(100, 1280, PLAIN);
        law(x, "(k*4+s*2+p-60)*(w=9)");
        due(10 * (4 + 2 + 33), x.enough(1, 20029, 9), "by its own number, sex and parents");
    }

    private static void slips() {
        at("26 (slips)");
        DoorPost x = still(1000, 1010);
        x.child(200, 1000, PLAIN);
        int[] seeds = {0, 1, -1, 12345, Integer.MAX_VALUE, Integer.MIN_VALUE};
        for (int seed : seeds) {
            for (int v = 0; v < 100; v += 11) {
                int z = seed;
                int low = 0;
                int high = 0;
                for (int k = 0; k < 50; k++) {
                    z = z * 1103515245 + 12345;
                    int slip = (z >>> 8) % (2 * v + 1) - v;
                    low += 1000 + slip <= 1005 ? 1 : 0;
                    high += 1010 + slip > 1005 ? 1 : 0;
                }
                due(low, x.slips(0, 10, seed, 5000 + v), "the lower, " + seed + ", " + v);
                due(high, x.slips(1, 10, seed, 5000 + v), "the higher, " + seed + ", " + v);
            }
        }
        due(1, x.slips(0, 10, 7, 100), "once, without a slip");
        due(50, still(1000, 1001).slips(0, 10, 7, 5000), "without slips");
        due(0, x.slips(2, 20, 7, 5000), "as high as the first");
        due(NOT, x.slips(0, 9, 7, 100), "not born");
        due(NOT, x.slips(2, 19, 7, 100), "not born");
        due(BAD, x.slips(3, 10, 7, 100), "no such child");
        due(BAD, x.slips(-1, 10, 7, 100), "child -1");
        due(BAD, x.slips(0, -1, 7, 100), "month -1");
        due(BAD, x.slips(0, 600, 7, 100), "month 600");
        due(BAD, x.slips(0, 10, 7, 99), "n 0");
        due(BAD, x.slips(0, 10, 7, 5100), "n 51");
        due(BAD, x.slips(0, 10, 7, -1), "nv -1");
        due(BAD, x.slips(0, 9, 7, 5100), "BAD ahead of NOT");
        due(0, x.count(2), "no mark stays");
    }

    private static void undoAndRedo() {
        at("27 (undo), 28 (redo)");
        DoorPost x = new DoorPost();
        x.mark(100, 61, 5);
        x.child(0, 1280, PLAIN);
        x.mend(0, 0, 200);
        x.mend(0, 1, 3);
        x.mend(0, 2, 24);
        x.mend(0, 3, 5000);
        due(4, x.count(4), "changes");
        due(STATE, x.redo(), "none to do again");
        due(3, x.undo(), "parents");
        due(4300, x.of(0, 14), "parents");
        due(2, x.undo(), "late");
        due(0, x.of(0, 13), "late");
        due(1736, x.height(0, 12), "heights as before");
        due(1, x.undo(), "way");
        due(1, x.of(0, 3), "way");
        due(0, x.undo(), "height");
        due(100, x.of(0, 0), "height");
        due(STATE, x.undo(), "none");
        due(0, x.count(4), "changes");
        due(3, x.redo(), "height");
        due(200, x.of(0, 0), "height");
        due(2, x.redo(), "way");
        due(1, x.redo(), "late");
        due(1760, x.height(0, 12), "heights by late");
        due(0, x.redo(), "parents");
        due(5000, x.of(0, 14), "parents");
        due(STATE, x.redo(), "none");
        due(3, x.undo(), "parents");
        x.mend(0, 3, 4300);
        due(0, x.redo(), "the same number is no change");
        due(3, x.undo(), "parents");
        due(VOID, x.mend(0, 3, 1), "a refused one");
        due(0, x.redo(), "a refused one is no change");
        due(3, x.undo(), "parents");
        due(2, x.undo(), "late");
        x.mend(0, 0, 300);
        due(STATE, x.redo(), "another came behind");
        due(2, x.undo(), "that one");
        due(200, x.of(0, 0), "height");

        DoorPost y = new DoorPost();
        y.mark(0, 60, 600);
        for (int i = 1; i <= 45; i++) {
            due(i - 1, y.mend(0, 0, i), "mend " + i);
            due(Math.min(i, 40), y.count(4), "changes");
        }
        for (int i = 39; i >= 0; i--) {
            due(i, y.undo(), "undo");
            due(i + 5, y.of(0, 0), "height");
        }
        due(STATE, y.undo(), "the oldest are gone");
        for (int i = 39; i >= 0; i--) {
            due(i, y.redo(), "redo");
            due(45 - i, y.of(0, 0), "height");
        }
        due(STATE, y.redo(), "none");
        due(45, y.mend(0, 0, 99), "one more");
        due(40, y.count(4), "changes");
        DoorPost z = new DoorPost();
        z.mark(0, 60, 600);
        z.mark(0, 60, 600);
        z.child(0, 1280, PLAIN);
        for (int i = 1; i <= 20; i++) {
            z.mend(0, 0, i);
            z.mend(1, 0, 100 + i);
            z.mend(0, 2, i);
        }
        for (int i = 39; i >= 0; i--) {
            due(i, z.undo(), "undo of several");
        }
        due(7, z.of(0, 0), "the first's height");
        due(107, z.of(1, 0), "the second's height");
        due(6, z.of(0, 13), "the child's late");
        for (int i = 39; i >= 0; i--) {
            due(i, z.redo(), "redo of several");
        }
        due(20, z.of(0, 0), "the first's height");
        due(120, z.of(1, 0), "the second's height");
        due(20, z.of(0, 13), "the child's late");
    }

    private static DoorPost eight() {
        DoorPost x = new DoorPost();
        for (int kind = 0; kind < 8; kind++) {
            x.body(kind);
        }
        return x;
    }

    private static void body() {
        at("29 (body)");
        DoorPost x = new DoorPost();
        due(BAD, x.body(-1), "kind -1");
        due(BAD, x.body(8), "kind 8");
        for (int i = 0; i < 50; i++) {
            due(i, x.body(i % 8), "body " + i);
        }
        due(FULL, x.body(0), "the 51st");
        due(BAD, x.body(8), "BAD ahead of FULL");
        due(50, x.count(5), "bodies");
        due(49 + 7, x.act(49, 0, 4) , "the last is NAMED: 4 + 49 + 3");
    }

    private static final int[][] ACTS_OF_TEN = {{10, 20, 10, 19}, {14, 28, 11, 28}, {12, -24, 8, -27}, {16, 34, 27, 28},
        {14, 28, 8, 29}, {15, 30, 8, 36}, {38, 80, 36, 59}, {17, -29, 13, -36}};

    private static void act() {
        at("30 (act)");
        DoorPost x = eight();
        for (int kind = 0; kind < 8; kind++) {
            for (int act = 0; act < 4; act++) {
                due(ACTS_OF_TEN[kind][act], x.act(kind, act, 10), "kind " + kind + ", act " + act);
            }
        }
        due(-2147483648, x.act(1, 0, 2147483644), "it wraps");
        due(-2, x.act(0, 1, Integer.MAX_VALUE), "it wraps");
        int[][] none = {{-1, 0}, {8, 0}, {0, -1}, {0, 4}};
        for (int[] n : none) {
            x.act(3, 3, 10);
            due(7, x.count(6), "bodies that ran");
            due(0, x.act(n[0], n[1], 10), "no such one");
            due(0, x.count(6), "none ran");
            due(BAD, x.trace(0), "no trace then");
        }
    }

    private static void trace() {
        at("31 (trace)");
        int[][][] traces = {
            {{1}, {10, 1}, {11}, {2, 10, 1, 11}},
            {{20, 1}, {10, 20, 1}, {11}, {2, 10, 20, 1, 11}},
            {{1}, {30, 10, 1}, {11}, {2, 30, 10, 1, 11}},
            {{20, 1}, {41, 10, 20, 1}, {40, 11}, {2, 41, 10, 20, 1, 40, 11}},
            {{1}, {10, 1}, {50, 11, 1}, {2, 10, 1, 50, 11, 1}},
            {{1}, {10, 1}, {50, 11, 1}, {60, 2, 10, 1, 50, 11, 1}},
            {{70, 20, 1}, {41, 10, 70, 20, 1}, {40, 11}, {2, 41, 10, 70, 20, 1, 40, 11}},
            {{1}, {80, 30, 10, 1, 11}, {11}, {81, 2, 80, 30, 10, 1, 11, 11}}};
        DoorPost x = eight();
        due(BAD, x.trace(0), "no act yet");
        for (int kind = 0; kind < 8; kind++) {
            for (int act = 0; act < 4; act++) {
                x.act(kind, act, 10);
                int[] ran = traces[kind][act];
                due(ran.length, x.count(6), "how many ran");
                for (int i = 0; i < ran.length; i++) {
                    due(ran[i], x.trace(i), "kind " + kind + ", act " + act + ", " + i);
                }
                due(BAD, x.trace(ran.length), "behind the last");
                due(BAD, x.trace(-1), "-1");
                due(BAD, x.trace(24), "24");
            }
        }
    }

    private static void keep() {
        at("32 (keep)");
        DoorPost x = eight();
        due(1, x.keep(0, 7), "a mark");
        due(7, x.taken(0, 0), "it is there");
        due(1, x.keep(0, 3), "another mark");
        due(3, x.taken(0, 0), "it is there");
        due(BAD, x.keep(0, 8), "no such body");
        due(BAD, x.keep(0, -2), "body -2");
        due(BAD, x.keep(-1, 0), "shelf -1");
        due(BAD, x.keep(6, 0), "shelf 6");
        due(BAD, x.keep(6, -1), "shelf 6, nothing");
        due(3, x.taken(0, 0), "a refused call changes nothing");
        due(1, x.keep(0, -1), "nothing");
        due(-11, x.taken(0, 0), "nothing is there");
        x.row(0, 3, 5);
        due(1, x.keep(0, -1), "nothing for a row");
        due(-11, x.put(0, 0, 1), "nothing is there");
        x.row(5, 3, 5);
        due(1, x.keep(5, 0), "a mark for a row");
        due(0, x.taken(5, 0), "it is there");
    }

    private static void row() {
        at("33 (row)");
        DoorPost x = new DoorPost();
        due(BAD, x.row(-1, 0, 0), "shelf -1");
        due(BAD, x.row(6, 0, 0), "shelf 6");
        due(BAD, x.row(0, -1, 0), "sort -1");
        due(BAD, x.row(0, 5, 0), "sort 5");
        due(BAD, x.row(0, 0, 61), "n 61");
        due(-14, x.row(0, 0, -1), "n -1");
        due(-14, x.row(0, 4, Integer.MIN_VALUE), "n least");
        due(BAD, x.row(0, 5, -1), "BAD ahead of -14");
        due(-11, x.put(0, 0, 0), "a refused call changes nothing");
        for (int sort = 0; sort < 5; sort++) {
            due(1, x.row(sort, sort, 60), "sixty");
            due(0, x.element(sort, 59), "0 at first");
            due(Long.MIN_VALUE, x.element(sort, 60), "no more");
            x.put(sort, 3, 1);
            x.put(sort, 0, 1);
            due(1, x.row(sort, sort, 4), "a new one");
            due(0, x.element(sort, 3), "0 at first");
            due(0, x.element(sort, 0), "0 at first");
            due(-13, x.put(sort, 4, 1), "it has four");
        }
        due(1, x.row(5, 0, 0), "none");
        due(-13, x.put(5, 0, 0), "it has none");
        x.body(0);
        x.keep(1, 0);
        due(1, x.row(1, 2, 1), "a row for a mark");
        due(-12, x.taken(1, 0), "the mark is gone");
    }

    private static void put() {
        at("34 (put)");
        DoorPost x = new DoorPost();
        due(BAD, x.put(-1, 0, 0), "shelf -1");
        due(BAD, x.put(6, 0, 0), "shelf 6");
        due(-11, x.put(0, 0, 0), "nothing is there");
        due(-11, x.put(0, -1, 0), "-11 ahead of -13");
        x.body(0);
        x.keep(0, 0);
        due(-12, x.put(0, 0, 0), "a mark");
        due(-12, x.put(0, -1, 0), "-12 ahead of -13");
        x.row(0, 2, 3);
        due(-13, x.put(0, -1, 0), "place -1");
        due(-13, x.put(0, 3, 0), "place 3");
        due(-13, x.put(0, Integer.MAX_VALUE, 0), "far out");
        due(1, x.put(0, 0, 5), "place 0");
        due(1, x.put(0, 2, 6), "place 2");
        due(5, x.element(0, 0), "place 0");
        due(0, x.element(0, 1), "place 1");
        due(6, x.element(0, 2), "place 2");
    }

    private static void element() {
        at("35 (element)");
        DoorPost x = new DoorPost();
        long none = Long.MIN_VALUE;
        due(none, x.element(-1, 0), "shelf -1");
        due(none, x.element(6, 0), "shelf 6");
        due(none, x.element(0, 0), "nothing is there");
        x.body(0);
        x.keep(0, 0);
        due(none, x.element(0, 0), "a mark");
        long[] values = {0, 1, -1, 2, 127, 128, 255, 256, 32767, 32768, 65536, 2147483647L, 2147483648L, 4294967296L,
            Long.MAX_VALUE, Long.MIN_VALUE, -129, -32769, 1L << 40};
        for (long v : values) {
            for (int sort = 0; sort < 5; sort++) {
                x.row(1, sort, 2);
                due(1, x.put(1, 1, v), "put");
                long kept = sort == 0 ? (byte) v : sort == 1 ? (short) v : sort == 2 ? (int) v : sort == 3 ? v
                    : v == 0 ? 0 : 1;
                due(kept, x.element(1, 1), "the lowest bits of " + v + ", sort " + sort);
                due(0, x.element(1, 0), "the one beside");
            }
        }
        due(none, x.element(1, 2), "behind the end");
        due(none, x.element(1, -1), "place -1");
    }

    private static void shift() {
        at("36 (shift)");
        DoorPost x = new DoorPost();
        x.body(0);
        due(BAD, x.shift(-1, 0, 0, 0, 0), "shelf -1");
        due(BAD, x.shift(6, 0, 0, 0, 0), "shelf 6");
        due(BAD, x.shift(0, 0, -1, 0, 0), "other -1");
        due(BAD, x.shift(0, 0, 6, 0, 0), "other 6");
        due(-11, x.shift(0, 0, 1, 0, 0), "nothing is there");
        x.row(0, 2, 6);
        due(-11, x.shift(0, 0, 1, 0, 0), "nothing is in the other");
        due(-11, x.shift(1, 0, 0, 0, 0), "nothing is in the one");
        x.keep(1, 0);
        due(-12, x.shift(0, 0, 1, 0, 0), "the other is a mark");
        due(-12, x.shift(1, 0, 0, 0, 0), "the one is a mark");
        due(-11, x.shift(1, 0, 2, 0, 0), "-11 ahead of -12");
        x.row(1, 3, 6);
        due(-12, x.shift(0, 9, 1, 0, 0), "unlike sorts, ahead of -13");
        x.row(1, 2, 4);
        for (int i = 0; i < 6; i++) {
            x.put(0, i, 10 + i);
        }
        int[][] places = {{-1, 0, 1}, {0, -1, 1}, {0, 0, -1}, {5, 0, 2}, {0, 3, 2}, {7, 0, 0}, {0, 5, 0}, {6, 0, 1},
            {0, 0, 5}, {Integer.MAX_VALUE, 0, Integer.MAX_VALUE}, {1, 1, Integer.MAX_VALUE}, {0, 0, Integer.MIN_VALUE}};
        for (int[] p : places) {
            due(-13, x.shift(0, p[0], 1, p[1], p[2]), "no such place: " + p[0] + " " + p[1] + " " + p[2]);
        }
        due(0, x.element(1, 0), "a refused call changes nothing");
        due(0, x.shift(0, 6, 1, 4, 0), "none, at the ends");
        due(3, x.shift(0, 2, 1, 1, 3), "three");
        int[] other = {0, 12, 13, 14};
        for (int i = 0; i < 4; i++) {
            due(other[i], x.element(1, i), "the other's element " + i);
            due(10 + i, x.element(0, i), "the one's element " + i);
        }
        due(4, x.shift(0, 0, 0, 2, 4), "up within one");
        int[] up = {10, 11, 10, 11, 12, 13};
        for (int i = 0; i < 6; i++) {
            due(up[i], x.element(0, i), "element " + i);
        }
        due(5, x.shift(0, 1, 0, 0, 5), "down within one");
        int[] down = {11, 10, 11, 12, 13, 13};
        for (int i = 0; i < 6; i++) {
            due(down[i], x.element(0, i), "element " + i);
        }
    }

    private static void taken() {
        at("37 (taken)");
        int[] above = {-1, 0, 0, 1, 0, 4, 3, 2};
        DoorPost x = eight();
        for (int kind = 0; kind < 8; kind++) {
            x.keep(2, kind);
            for (int k = 0; k < 8; k++) {
                boolean under = false;
                for (int at = kind; at >= 0; at = above[at]) {
                    under |= at == k;
                }
                due(under ? kind : -12, x.taken(2, k), "kind " + kind + " for " + k);
            }
        }
        due(BAD, x.taken(2, -1), "kind -1");
        due(BAD, x.taken(2, 8), "kind 8");
        due(BAD, x.taken(-1, 0), "shelf -1");
        due(BAD, x.taken(6, 0), "shelf 6");
        due(-11, x.taken(3, 0), "nothing is there");
        x.row(3, 0, 1);
        due(-12, x.taken(3, 0), "a row");
    }

    private static void count() {
        at("38 (count)");
        DoorPost x = eight();
        x.child(0, 1280, PLAIN);
        x.want(5, 1);
        x.want(5, 1);
        x.mark(1, 60, 600);
        x.mark(1, 60, 600);
        x.mark(1, 60, 600);
        x.feed(1);
        x.feed(1);
        x.feed(1);
        x.feed(1);
        x.mend(0, 0, 2);
        x.mend(0, 0, 3);
        x.mend(0, 0, 4);
        x.mend(0, 0, 5);
        x.mend(0, 0, 6);
        x.undo();
        x.act(7, 3, 1);
        int[] counts = {1, 2, 3, 4, 4, 8, 8};
        for (int what = 0; what < 7; what++) {
            due(counts[what], x.count(what), "count " + what);
        }
        due(BAD, x.count(-1), "-1");
        due(BAD, x.count(7), "7");
        due(BAD, x.count(Integer.MIN_VALUE), "least");
    }
}
