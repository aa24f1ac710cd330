/** Promises 8 to 19: a test for each sentence of the document that names a boundary. */
public final class MarksBoundaryTest {
    private static final int BAD = -1, NOT = -2, FULL = -3, VOID = -2000000000;
    private static final int LEAST = Integer.MIN_VALUE, GREATEST = Integer.MAX_VALUE;
    // LATE 0, PARENTS 4300.
    private static final int PLAIN = 244300;
    private static final int SOCKS = 60, NO_MONTH = 600;
    private static int wrong = 0;
    private static int asked = 0;
    private static String sentence = "";

    public static void main(String[] args) {
        thirtyMarks();
        aHeight();
        aName();
        aMonth();
        aWay();
        rowsAreMissing();
        rowsOfOtherKinds();
        rowsEnd();
        rowsHoldOneThatIsNotSo();
        rowsBehindFullMarks();
        fromOneToFifteen();
        marksBadAheadOfOtherKind();
        paintInAMonth();
        paintCoversThatMonthOrEarlier();
        paintWithoutAMonth();
        ofAMark();
        ofAChild();
        ofWhat();
        mendHeight();
        mendWay();
        mendLate();
        mendParents();
        mendWhat();
        mendTheSame();
        offBeforeBirth();
        offBySize();
        offByWays();
        offRounded();
        offArguments();
        whoseNoneIsBorn();
        whoseOfLikeOnes();
        whoseNamed();
        whoseItsMonth();
        whoseArguments();
        oddsCut();
        oddsNot();
        oddsOfOneThatMayNotBe();
        oddsArguments();
        howOfLikeOnes();
        howWrong();
        howNot();
        howArguments();
        togetherOfNone();
        togetherMoreMarksThanChildren();
        togetherFourAtMost();
        togetherOfLikeOnes();
        togetherWhichMarks();
        togetherArguments();
        turnedNotHigher();
        turnedEarlierMonth();
        turnedNone();
        turnedArguments();
        ledToNone();
        ledArguments();
        System.out.println(wrong == 0 ? asked + " answers are as due" : wrong + " answers are not as due");
        if (wrong != 0) {
            System.exit(1);
        }
    }

    private static void says(String words) {
        sentence = words;
    }

    private static void due(long want, long got, String call) {
        asked++;
        if (got != want) {
            wrong++;
            System.out.println("\"" + sentence + "\": " + call + " answered " + got + ", due is " + want);
        }
    }

    private static int law(DoorPost x, String text) {
        for (int i = 0; i < text.length(); i++) {
            x.feed(text.charAt(i));
        }
        return x.law();
    }

    /** One whose CHILDREN keep their LENGTHS, born in MONTH 10. */
    private static DoorPost still(int... lengths) {
        DoorPost x = new DoorPost();
        law(x, "0");
        for (int length : lengths) {
            x.child(100, length, PLAIN);
        }
        return x;
    }

    /** A ROW of shorts on a SHELF. */
    private static void fill(DoorPost x, int shelf, long... values) {
        x.row(shelf, 1, values.length);
        for (int i = 0; i < values.length; i++) {
            x.put(shelf, i, values[i]);
        }
    }

    // ---- promise 8

    private static void thirtyMarks() {
        says("MARKS 0 .. 29, as they come: BAD, FULL: 30");
        DoorPost x = new DoorPost();
        for (int i = 0; i < 30; i++) {
            due(VOID, x.of(i, 0), "not yet mark " + i);
            due(i, x.mark(100 + i, SOCKS, NO_MONTH), "mark " + i);
            due(i + 1, x.count(2), "marks");
        }
        due(FULL, x.mark(1, SOCKS, NO_MONTH), "the 31st");
        due(BAD, x.mark(-1, SOCKS, NO_MONTH), "BAD is named ahead of FULL");
        due(BAD, x.mark(1, 70, NO_MONTH), "BAD is named ahead of FULL");
        due(BAD, x.mark(1, SOCKS, 601), "BAD is named ahead of FULL");
        due(30, x.count(2), "marks");
        for (int i = 0; i < 30; i++) {
            due(100 + i, x.of(i, 0), "height of mark " + i);
        }
        due(VOID, x.of(30, 0), "no mark 30");
    }

    private static void aHeight() {
        says("a HEIGHT (0 .. 9999)");
        DoorPost x = new DoorPost();
        for (int height : new int[] {-1, 10000, LEAST, GREATEST}) {
            due(BAD, x.mark(height, SOCKS, 5), "height " + height);
        }
        due(0, x.mark(0, SOCKS, 5), "height 0");
        due(1, x.mark(9999, SOCKS, 5), "height 9999");
        due(0, x.of(0, 0), "height of the first");
        due(9999, x.of(1, 0), "height of the second");
    }

    private static void aName() {
        says("a NAME (0 .. 5: whether there is such a CHILD or not; 6: none)");
        DoorPost x = new DoorPost();
        for (int nw : new int[] {-1, -10, -60, 70, 71, 80, 100, LEAST, GREATEST}) {
            due(BAD, x.mark(5, nw, 5), "nw " + nw);
        }
        for (int name = 0; name <= 6; name++) {
            due(name, x.mark(5, 10 * name, 5), "name " + name + ", without children");
            due(name, x.of(name, 1), "name of mark " + name);
        }
    }

    private static void aMonth() {
        says("a MONTH (0 .. 599; 600: none)");
        DoorPost x = new DoorPost();
        for (int month : new int[] {-1, 601, 602, LEAST, GREATEST}) {
            due(BAD, x.mark(5, SOCKS, month), "month " + month);
        }
        due(0, x.mark(5, SOCKS, 0), "month 0");
        due(1, x.mark(5, SOCKS, 599), "month 599");
        due(2, x.mark(5, SOCKS, 600), "none");
        due(0, x.of(0, 2), "month of the first");
        due(599, x.of(1, 2), "month of the second");
        due(600, x.of(2, 2), "month of the third");
    }

    private static void aWay() {
        says("a WAY: 0 in socks; 1 shod; 2 on tiptoe; 3 in the evening; 4 rounded");
        DoorPost x = new DoorPost();
        for (int way = 5; way < 10; way++) {
            due(BAD, x.mark(5, way, 5), "way " + way);
            due(BAD, x.mark(5, 60 + way, 5), "way " + way + ", no name");
        }
        for (int way = 0; way <= 4; way++) {
            due(way, x.mark(5, 60 + way, 5), "way " + way);
            due(way, x.of(way, 3), "way of mark " + way);
        }
    }

    // ---- promise 9

    private static void rowsAreMissing() {
        says("it ends where the row is missing (a SHELF that holds nothing is missing)");
        DoorPost x = new DoorPost();
        due(0, x.marks(0, 0, 1), "nothing at first");
        due(0, x.marks(5, 0, 15), "nothing at first");
        for (int i : new int[] {-1, -4, 1, 59, 60, LEAST, GREATEST}) {
            due(0, x.marks(0, i, 1), "from place " + i);
        }
        fill(x, 0, 1, 1, 1, 1);
        due(1, x.marks(0, 0, 1), "a row");
        x.keep(0, -1);
        due(0, x.marks(0, 0, 1), "nothing again");
        due(1, x.count(2), "marks");
    }

    private static void rowsOfOtherKinds() {
        says("-12 (no ROW of shorts)");
        DoorPost x = new DoorPost();
        for (int sort = 0; sort < 5; sort++) {
            due(1, x.row(0, sort, 4), "a row of sort " + sort);
            due(sort == 1 ? 1 : -12, x.marks(0, 0, 1), "of sort " + sort);
            due(1, x.row(0, sort, 0), "a row without elements, of sort " + sort);
            due(sort == 1 ? 0 : -12, x.marks(0, 0, 1), "of sort " + sort);
            due(sort == 1 ? 0 : -12, x.marks(0, -1, 1), "of sort " + sort + ", from a place that is not there");
        }
        x.body(0);
        x.keep(0, 0);
        due(-12, x.marks(0, 0, 1), "a mark of acts");
        due(-12, x.marks(0, 60, 15), "a mark of acts");
        due(1, x.count(2), "marks");
    }

    private static void rowsEnd() {
        says("it ends where the row ends (within a four, too): those ahead came");
        for (int size = 0; size <= 60; size++) {
            DoorPost x = new DoorPost();
            x.row(0, 1, size);
            due(Math.min(15, size / 4), x.marks(0, 0, 15), "a row of " + size);
            due(size / 4, x.count(2), "marks");
        }
        DoorPost x = new DoorPost();
        fill(x, 2, 1, 2, 3, 4, 5, 6, 7, 0, 9, 1);
        due(0, x.marks(2, 10, 1), "just behind the end");
        due(0, x.marks(2, 11, 1), "farther behind the end");
        due(0, x.marks(2, GREATEST, 15), "farthest behind the end");
        due(0, x.marks(2, GREATEST - 2, 15), "nearly farthest");
        due(0, x.marks(2, -1, 1), "just ahead of the row");
        due(0, x.marks(2, -4, 2), "a four ahead of the row");
        due(0, x.marks(2, LEAST, 15), "farthest ahead of the row");
        due(0, x.marks(2, 9, 1), "one element");
        due(0, x.marks(2, 8, 1), "two elements");
        due(0, x.marks(2, 7, 1), "three elements");
        due(0, x.count(2), "marks");
        due(1, x.marks(2, 6, 1), "the last four");
        due(7, x.of(0, 0), "height");
        due(0, x.of(0, 1), "name");
        due(9, x.of(0, 2), "month");
        due(1, x.of(0, 3), "way");
    }

    private static void rowsHoldOneThatIsNotSo() {
        says("it ends where one is not so: those ahead came");
        long[][] fours = {{-1, 0, 0, 0}, {10000, 0, 0, 0}, {0, -1, 0, 0}, {0, 7, 0, 0}, {0, 0, -1, 0}, {0, 0, 601, 0},
            {0, 0, 0, -1}, {0, 0, 0, 5}, {32767, 0, 0, 0}, {-32768, 0, 0, 0}, {40000, 0, 0, 0}};
        for (long[] f : fours) {
            DoorPost x = new DoorPost();
            fill(x, 3, 11, 1, 1, 1, 12, 2, 2, 2, f[0], f[1], f[2], f[3], 13, 3, 3, 3);
            due(2, x.marks(3, 0, 4), "the third is not so: " + f[0] + " " + f[1] + " " + f[2] + " " + f[3]);
            due(2, x.count(2), "those ahead");
            due(12, x.of(1, 0), "the second's height");
            due(0, x.marks(3, 8, 2), "it is not so at first either");
            due(1, x.marks(3, 12, 1), "the one behind it");
        }
        DoorPost y = new DoorPost();
        fill(y, 3, 0, 0, 0, 0, 9999, 6, 600, 4, 65536 + 7, 0, 599, 0);
        due(3, y.marks(3, 0, 3), "least, greatest, lowest bits");
        due(9999, y.of(1, 0), "greatest height");
        due(6, y.of(1, 1), "no name");
        due(600, y.of(1, 2), "no month");
        due(4, y.of(1, 3), "greatest way");
        due(7, y.of(2, 0), "lowest bits");
    }

    private static void rowsBehindFullMarks() {
        says("it ends where MARKS are FULL: those ahead came");
        DoorPost x = new DoorPost();
        x.row(0, 1, 60);
        due(15, x.marks(0, 0, 15), "fifteen");
        due(14, x.marks(0, 0, 14), "fourteen more");
        due(29, x.count(2), "marks");
        due(1, x.marks(0, 0, 2), "one of two");
        due(30, x.count(2), "marks");
        due(0, x.marks(0, 0, 1), "none, and it is not FULL");
        due(0, x.marks(0, 0, 15), "none, and it is not FULL");
        due(30, x.count(2), "marks");
        due(0, x.marks(1, 0, 15), "a missing row");
        x.row(1, 2, 60);
        due(-12, x.marks(1, 0, 1), "no row of shorts: -12 still");
    }

    private static void fromOneToFifteen() {
        says("n (1 .. 15) of them: how many came. BAD");
        DoorPost x = new DoorPost();
        x.row(0, 1, 60);
        for (int n : new int[] {0, 16, -1, LEAST, GREATEST}) {
            due(BAD, x.marks(0, 0, n), "n " + n);
        }
        for (int shelf : new int[] {-1, 6, LEAST, GREATEST}) {
            due(BAD, x.marks(shelf, 0, 1), "shelf " + shelf);
        }
        due(0, x.count(2), "marks");
        due(1, x.marks(0, 0, 1), "n 1");
        due(1, x.count(2), "marks");
        due(15, x.marks(0, 0, 15), "n 15");
        due(16, x.count(2), "marks");
        due(1, x.marks(0, 56, 15), "n 15, from the last four on");
    }

    private static void marksBadAheadOfOtherKind() {
        says("Answers, of several the one named first: BAD, -12");
        DoorPost x = new DoorPost();
        x.row(0, 2, 60);
        due(BAD, x.marks(0, 0, 0), "n 0 of a row of ints");
        due(BAD, x.marks(0, 0, 16), "n 16 of a row of ints");
        due(-12, x.marks(0, -1, 15), "a row of ints from a place ahead of it");
        due(-12, x.marks(0, 60, 15), "a row of ints from a place behind it");
    }

    // ---- promise 10

    private static void paintInAMonth() {
        says("PAINT in a MONTH (0 .. 599): how many MARKS are COVERED by now. BAD.");
        DoorPost x = new DoorPost();
        due(0, x.paint(0), "no marks");
        x.mark(1, SOCKS, 0);
        x.mark(1, SOCKS, 599);
        x.mark(1, SOCKS, NO_MONTH);
        due(1, x.of(0, 4), "by the paint ahead");
        for (int month : new int[] {-1, 600, 601, LEAST, GREATEST}) {
            due(BAD, x.paint(month), "month " + month);
        }
        due(0, x.of(1, 4), "a refused paint covers none");
        due(0, x.of(2, 4), "a refused paint covers none");
        due(2, x.paint(0), "month 0");
        due(0, x.of(1, 4), "month 599");
        due(3, x.paint(599), "month 599");
        due(1, x.of(1, 4), "month 599");
    }

    private static void paintCoversThatMonthOrEarlier() {
        says("MARKS whose MONTH is that or earlier are COVERED");
        DoorPost x = new DoorPost();
        x.mark(1, SOCKS, 99);
        x.mark(1, SOCKS, 100);
        x.mark(1, SOCKS, 101);
        for (int mark = 0; mark < 3; mark++) {
            due(0, x.of(mark, 4), "no paint yet, mark " + mark);
        }
        DoorPost none = new DoorPost();
        none.mark(1, SOCKS, 0);
        due(0, none.of(0, 4), "no paint yet, the first month");
        due(1, none.paint(0), "the first month");
        due(2, x.paint(100), "month 100");
        due(1, x.of(0, 4), "an earlier one");
        due(1, x.of(1, 4), "that month");
        due(0, x.of(2, 4), "a later one");
        due(2, x.paint(50), "an earlier paint uncovers none");
        due(1, x.of(1, 4), "that month");
        x.mark(1, SOCKS, 100);
        x.mark(1, SOCKS, 101);
        due(1, x.of(3, 4), "that month, told behind the paint");
        due(0, x.of(4, 4), "a later one, told behind the paint");
        due(5, x.paint(101), "month 101");
    }

    private static void paintWithoutAMonth() {
        says("(those without one, if they are told ahead of the PAINT)");
        DoorPost x = new DoorPost();
        x.mark(1, SOCKS, NO_MONTH);
        due(0, x.of(0, 4), "no paint yet");
        due(1, x.paint(0), "the earliest paint");
        due(1, x.of(0, 4), "told ahead");
        x.mark(1, SOCKS, NO_MONTH);
        due(0, x.of(1, 4), "told behind");
        due(BAD, x.paint(600), "a refused paint");
        due(0, x.of(1, 4), "told behind the only paint");
        due(2, x.paint(0), "another paint");
        due(1, x.of(1, 4), "told ahead of that");
        DoorPost y = new DoorPost();
        y.paint(599);
        y.mark(1, SOCKS, NO_MONTH);
        due(0, y.of(0, 4), "told behind the latest paint");
    }

    // ---- promises 11 and 12

    private static void ofAMark() {
        says("Of a MARK: 0 HEIGHT, 1 NAME, 2 MONTH, 3 WAY, 4 whether it is COVERED. VOID: BAD.");
        DoorPost x = new DoorPost();
        x.child(0, 500, PLAIN);
        due(VOID, x.of(0, 0), "no marks");
        x.mark(7, 21, 33);
        x.mark(8, 54, 600);
        int[][] told = {{7, 2, 33, 1, 0}, {8, 5, 600, 4, 0}};
        for (int mark = 0; mark < 2; mark++) {
            for (int what = 0; what < 5; what++) {
                due(told[mark][what], x.of(mark, what), "mark " + mark + ", what " + what);
            }
        }
        for (int mark : new int[] {-1, 2, 29, 30, LEAST, GREATEST}) {
            for (int what = 0; what < 5; what++) {
                due(VOID, x.of(mark, what), "mark " + mark + ", what " + what);
            }
        }
        x.paint(33);
        due(1, x.of(0, 4), "covered");
    }

    private static void ofAChild() {
        says("of a CHILD: 10 BORN, 11 SEX, 12 LENGTH, 13 LATE, 14 PARENTS. VOID: BAD.");
        DoorPost x = new DoorPost();
        x.mark(7, 21, 33);
        due(VOID, x.of(0, 10), "no children");
        x.child(0, 500, 3000);
        x.child(5991, 2000, 486000);
        int[][] told = {{0, 0, 500, -24, 3000}, {599, 1, 2000, 24, 6000}};
        for (int child = 0; child < 2; child++) {
            for (int what = 0; what < 5; what++) {
                due(told[child][what], x.of(child, 10 + what), "child " + child + ", what " + (10 + what));
            }
        }
        for (int child : new int[] {-1, 2, 5, 6, LEAST, GREATEST}) {
            for (int what = 10; what < 15; what++) {
                due(VOID, x.of(child, what), "child " + child + ", what " + what);
            }
        }
    }

    private static void ofWhat() {
        says("VOID: BAD. (what)");
        DoorPost x = new DoorPost();
        x.mark(7, 21, 33);
        x.child(0, 500, 3000);
        for (int what : new int[] {-1, 5, 6, 7, 8, 9, 15, 16, LEAST, GREATEST}) {
            due(VOID, x.of(0, what), "what " + what);
        }
    }

    private static void mendHeight() {
        says("HEIGHT (what 0) of a MARK becomes v: what it was. VOID: BAD.");
        DoorPost x = new DoorPost();
        x.child(0, 500, PLAIN);
        due(VOID, x.mend(0, 0, 5), "no marks");
        x.mark(7, 21, 33);
        for (int v : new int[] {-1, 10000, LEAST, GREATEST}) {
            due(VOID, x.mend(0, 0, v), "height " + v);
        }
        for (int mark : new int[] {-1, 1, 30, LEAST, GREATEST}) {
            due(VOID, x.mend(mark, 0, 5), "mark " + mark);
        }
        due(0, x.count(4), "no change");
        due(7, x.of(0, 0), "the height");
        due(7, x.mend(0, 0, 0), "height 0");
        due(0, x.mend(0, 0, 9999), "height 9999");
        due(9999, x.of(0, 0), "the height");
        due(2, x.count(4), "changes");
    }

    private static void mendWay() {
        says("WAY (1) of a MARK becomes v: what it was. VOID: BAD.");
        DoorPost x = new DoorPost();
        x.child(0, 500, PLAIN);
        due(VOID, x.mend(0, 1, 0), "no marks");
        x.mark(7, 21, 33);
        for (int v : new int[] {-1, 5, LEAST, GREATEST}) {
            due(VOID, x.mend(0, 1, v), "way " + v);
        }
        due(VOID, x.mend(1, 1, 0), "mark 1");
        due(VOID, x.mend(-1, 1, 0), "mark -1");
        due(0, x.count(4), "no change");
        due(1, x.mend(0, 1, 0), "way 0");
        due(0, x.mend(0, 1, 4), "way 4");
        due(4, x.of(0, 3), "the way");
        due(2, x.of(0, 1), "the name");
    }

    private static void mendLate() {
        says("LATE (2) of a CHILD becomes v: what it was. VOID: BAD.");
        DoorPost x = new DoorPost();
        x.mark(7, 21, 33);
        due(VOID, x.mend(0, 2, 0), "no children");
        x.child(0, 500, PLAIN);
        for (int v : new int[] {-25, 25, LEAST, GREATEST}) {
            due(VOID, x.mend(0, 2, v), "late " + v);
        }
        due(VOID, x.mend(1, 2, 5), "child 1");
        due(VOID, x.mend(-1, 2, 5), "child -1");
        due(VOID, x.mend(6, 2, 5), "child 6");
        due(0, x.count(4), "no change");
        due(0, x.mend(0, 2, -24), "late -24");
        due(-24, x.mend(0, 2, 24), "late 24");
        due(24, x.of(0, 13), "late");
        due(500 + 35 * 40, x.height(0, 35), "it counts from then on: 35 months of 40");
        due(500 + 35 * 40 + 16, x.height(0, 36), "and one of 16");
    }

    private static void mendParents() {
        says("PARENTS (3) of a CHILD becomes v: what it was. VOID: BAD.");
        DoorPost x = new DoorPost();
        x.mark(7, 21, 33);
        due(VOID, x.mend(0, 3, 4000), "no children");
        x.child(0, 500, PLAIN);
        for (int v : new int[] {2999, 6001, 0, LEAST, GREATEST}) {
            due(VOID, x.mend(0, 3, v), "parents " + v);
        }
        due(VOID, x.mend(1, 3, 4000), "child 1");
        due(VOID, x.mend(-1, 3, 4000), "child -1");
        due(0, x.count(4), "no change");
        due(4300, x.mend(0, 3, 3000), "parents 3000");
        due(3000, x.mend(0, 3, 6000), "parents 6000");
        due(6000, x.of(0, 14), "parents");
        law(x, "p");
        due(500 + 93, x.height(0, 1), "it counts: 6000");
        x.mend(0, 3, 3000);
        due(500 + 46, x.height(0, 1), "it counts from then on: 3000");
    }

    private static void mendWhat() {
        says("VOID: BAD. (what)");
        DoorPost x = new DoorPost();
        x.mark(7, 21, 33);
        x.child(0, 500, PLAIN);
        for (int what : new int[] {-1, 4, 5, 10, 13, LEAST, GREATEST}) {
            due(VOID, x.mend(0, what, 3), "what " + what);
        }
        due(0, x.count(4), "no change");
    }

    private static void mendTheSame() {
        says("telling the same number is none");
        DoorPost x = new DoorPost();
        x.mark(7, 21, 33);
        x.child(0, 500, PLAIN);
        due(7, x.mend(0, 0, 7), "height");
        due(1, x.mend(0, 1, 1), "way");
        due(0, x.mend(0, 2, 0), "late");
        due(4300, x.mend(0, 3, 4300), "parents");
        due(0, x.count(4), "changes");
    }

    // ---- promise 13

    private static void offBeforeBirth() {
        says("OFF: NOT, if it is not BORN.");
        DoorPost x = still(1000);
        x.child(5990, 1000, PLAIN);
        x.child(0, 1000, PLAIN);
        x.mark(1000, SOCKS, NO_MONTH);
        due(NOT, x.off(0, 0, 0), "the first month");
        due(NOT, x.off(0, 9, 0), "the month ahead");
        due(0, x.off(0, 10, 0), "the month of birth");
        due(0, x.off(0, 11, 0), "the month behind");
        due(NOT, x.off(1, 598, 0), "the month ahead of the last");
        due(0, x.off(1, 599, 0), "the last month");
        due(0, x.off(2, 0, 0), "the first month");
    }

    private static void offBySize() {
        says("the size of its HEIGHT less what the WAY makes of HEIGHT then");
        DoorPost x = still(1000);
        for (int height : new int[] {0, 999, 1000, 1001, 9999}) {
            x.mark(height, SOCKS, NO_MONTH);
        }
        int[] off = {1000, 1, 0, 1, 8999};
        for (int mark = 0; mark < 5; mark++) {
            due(off[mark], x.off(10 * mark, 10, 0), "mark " + mark);
        }
    }

    private static void offByWays() {
        says("A WAY makes of a HEIGHT: 1: 48 more; 2: 128 more; 3: 24 less (0 at least)");
        DoorPost x = still(500, 2000);
        x.mark(0, SOCKS, NO_MONTH);
        int[] least = {500, 548, 628, 476, 512};
        int[] most = {2000, 2048, 2128, 1976, 1984};
        for (int way = 0; way < 5; way++) {
            due(least[way], x.off(0, 10, way), "500 by way " + way);
            due(most[way], x.off(1, 10, way), "2000 by way " + way);
        }
        law(x, "99");
        due(8128, x.off(1, 599, 2), "8000 on tiptoe");
        due(8000, x.off(1, 599, 4), "8000 rounded");
    }

    private static void offRounded() {
        says("4: the nearest inch (of halves the one above)");
        int[][] made = {{1024, 1024}, {1025, 1024}, {1055, 1024}, {1056, 1088}, {1057, 1088}, {1087, 1088}, {1088, 1088},
            {1089, 1088}, {1119, 1088}, {1120, 1152}, {543, 512}, {544, 576}};
        for (int[] m : made) {
            DoorPost x = still(m[0]);
            x.mark(0, SOCKS, NO_MONTH);
            due(m[1], x.off(0, 10, 4), m[0] + " rounded");
        }
    }

    private static void offArguments() {
        says("OFF of a MARK (mc: 10 times the MARK and the CHILD) in a MONTH by a WAY. BAD; NOT.");
        DoorPost none = new DoorPost();
        due(BAD, none.off(0, 0, 0), "no marks, no children");
        none.mark(5, SOCKS, NO_MONTH);
        due(BAD, none.off(0, 0, 0), "no children");
        DoorPost x = still(1000, 1100);
        due(BAD, x.off(0, 10, 0), "no marks");
        x.mark(1000, SOCKS, NO_MONTH);
        x.mark(1100, SOCKS, NO_MONTH);
        for (int mc : new int[] {-1, -10, 2, 9, 12, 20, 21, 300, LEAST, GREATEST}) {
            due(BAD, x.off(mc, 10, 0), "mc " + mc);
        }
        for (int month : new int[] {-1, 600, LEAST, GREATEST}) {
            due(BAD, x.off(0, month, 0), "month " + month);
        }
        for (int way : new int[] {-1, 5, LEAST, GREATEST}) {
            due(BAD, x.off(0, 10, way), "way " + way);
            due(BAD, x.off(0, 9, way), "BAD is named ahead of NOT");
        }
        due(100, x.off(1, 10, 0), "mark 0, child 1");
        due(100, x.off(10, 10, 0), "mark 1, child 0");
        due(0, x.off(11, 10, 0), "mark 1, child 1");
        DoorPost y = still(1000, 1100, 1200, 1300, 1400, 1500);
        for (int mark = 0; mark < 30; mark++) {
            y.mark(1000 + mark, SOCKS, NO_MONTH);
        }
        for (int mark = 0; mark < 30; mark++) {
            due(mark, y.off(10 * mark, 10, 0), "mark " + mark + ", child 0");
            due(500 - mark, y.off(10 * mark + 5, 10, 0), "mark " + mark + ", child 5");
        }
        due(BAD, y.off(296, 10, 0), "mark 29, child 6");
        due(BAD, y.off(300, 10, 0), "mark 30");
    }

    // ---- promise 14

    private static void whoseNoneIsBorn() {
        says("WHOSE: NOT: none is BORN.");
        DoorPost x = new DoorPost();
        x.mark(1000, SOCKS, NO_MONTH);
        x.mark(1000, SOCKS, 9);
        x.mark(1000, SOCKS, 10);
        x.mark(1000, 10, 10);
        for (int mark = 0; mark < 4; mark++) {
            for (int what = 0; what < 3; what++) {
                due(NOT, x.whose(mark, what), "no children, mark " + mark + ", what " + what);
            }
        }
        x.child(100, 1000, PLAIN);
        x.child(110, 1000, PLAIN);
        due(0, x.whose(0, 0), "a child in some month");
        due(NOT, x.whose(1, 0), "the month ahead of birth");
        due(NOT, x.whose(1, 1), "the month ahead of birth");
        due(NOT, x.whose(1, 2), "the month ahead of birth");
        due(0, x.whose(2, 0), "the month of birth");
        due(10, x.whose(2, 1), "the month of birth");
        due(0, x.whose(2, 2), "the month of birth");
        due(NOT, x.whose(3, 0), "the named one is not born then, though another is");
    }

    private static void whoseOfLikeOnes() {
        says("those with the least OFF by its WAY: of like ones the least MONTH, then the first CHILD");
        DoorPost x = still(1000, 1000);
        x.mark(1000, SOCKS, NO_MONTH);
        due(0, x.whose(0, 0), "the first child");
        due(10, x.whose(0, 1), "the least month");
        due(0, x.whose(0, 2), "off");
        x.child(90, 1000, PLAIN);
        due(2, x.whose(0, 0), "the least month goes ahead of the first child");
        due(9, x.whose(0, 1), "the least month");
        x.child(90, 1000, PLAIN);
        due(2, x.whose(0, 0), "the first child in that month");
        DoorPost y = still(1000, 1100);
        y.mark(1049, SOCKS, 10);
        y.mark(1050, SOCKS, 10);
        y.mark(1051, SOCKS, 10);
        due(0, y.whose(0, 0), "one nearer to the first");
        due(0, y.whose(1, 0), "as near to the one as to the other");
        due(50, y.whose(1, 2), "off");
        due(1, y.whose(2, 0), "one nearer to the second");
        due(49, y.whose(2, 2), "off");
        y.mark(1098, 61, 10);
        y.mark(1098, 62, 10);
        due(0, y.whose(3, 0), "1048 and 1148, shod: as near to both");
        due(0, y.whose(4, 0), "1128 and 1228, on tiptoe");
        due(30, y.whose(4, 2), "off by its way");
    }

    private static void whoseNamed() {
        says("of all CHILDREN that may be (NAME, if it has one that there is; else all)");
        DoorPost x = still(1000, 1100);
        x.mark(1000, 10, 10);
        x.mark(1000, 20, 10);
        x.mark(1000, 50, 10);
        x.mark(1000, SOCKS, 10);
        due(1, x.whose(0, 0), "the last child's name");
        due(100, x.whose(0, 2), "the last child's name");
        due(0, x.whose(1, 0), "a name just behind the last child's: all");
        due(0, x.whose(2, 0), "the greatest name: all");
        due(0, x.whose(3, 0), "no name: all");
        x.child(100, 1200, PLAIN);
        due(2, x.whose(1, 0), "now there is such a child");
        due(200, x.whose(1, 2), "now there is such a child");
    }

    private static void whoseItsMonth() {
        says("all MONTHS that may be (its own, else all)");
        DoorPost x = new DoorPost();
        law(x, "10");
        x.child(0, 1000, PLAIN);
        x.mark(1000, SOCKS, 0);
        x.mark(1000, SOCKS, 599);
        x.mark(9999, SOCKS, NO_MONTH);
        x.mark(1005, SOCKS, NO_MONTH);
        x.mark(1006, SOCKS, NO_MONTH);
        due(0, x.whose(0, 1), "month 0");
        due(599, x.whose(1, 1), "month 599");
        due(5990, x.whose(1, 2), "off in month 599");
        due(599, x.whose(2, 1), "of all the last");
        due(0, x.whose(3, 1), "of like ones the least");
        due(1, x.whose(4, 1), "the nearer");
    }

    private static void whoseArguments() {
        says("WHOSE: the CHILD (what 0), the MONTH (1), OFF (2). BAD; NOT.");
        DoorPost x = new DoorPost();
        due(BAD, x.whose(0, 0), "no marks");
        x.mark(1000, SOCKS, NO_MONTH);
        for (int what : new int[] {-1, 3, LEAST, GREATEST}) {
            due(BAD, x.whose(0, what), "BAD is named ahead of NOT, what " + what);
        }
        x.child(0, 1000, PLAIN);
        for (int what : new int[] {-1, 3, LEAST, GREATEST}) {
            due(BAD, x.whose(0, what), "what " + what);
        }
        for (int mark : new int[] {-1, 1, 29, 30, LEAST, GREATEST}) {
            due(BAD, x.whose(mark, 0), "mark " + mark);
        }
    }

    // ---- promise 15

    private static void oddsCut() {
        says("10000 by (1 and OFF) of each that is BORN and may be: thousandths (cut) of the sum of these");
        DoorPost x = still(1000, 1002);
        x.mark(1000, SOCKS, 10);
        x.mark(1001, SOCKS, 10);
        x.mark(1002, SOCKS, 10);
        // 10000 and 3333.
        due(750, x.odds(0), "off 0");
        due(249, x.odds(1), "off 2: cut");
        // 5000 and 5000.
        due(500, x.odds(10), "off 1");
        due(500, x.odds(11), "off 1");
        due(249, x.odds(20), "off 2");
        due(750, x.odds(21), "off 0");
        DoorPost y = still(1000);
        y.mark(9999, SOCKS, 10);
        y.mark(0, SOCKS, 599);
        due(1000, y.odds(0), "one alone, far off: 10000 by 9000 is 1");
        due(1000, y.odds(10), "one alone");
        DoorPost cut = still(1000, 1208);
        cut.mark(1072, SOCKS, 10);
        // 10000 by 73 and by 137, cut: 136 and 72, of 208.
        due(653, cut.odds(0), "each is cut");
        due(346, cut.odds(1), "each is cut");
        DoorPost z = still(500, 2000);
        z.mark(9999, SOCKS, 10);
        z.mark(6999, SOCKS, 10);
        // 10000 by 9500 and by 8000 are 1 and 1; by 6500 and by 5000 are 1 and 2.
        due(500, z.odds(0), "1 of 2");
        due(500, z.odds(1), "1 of 2");
        due(333, z.odds(10), "1 of 3, cut");
        due(666, z.odds(11), "2 of 3, cut");
    }

    private static void oddsNot() {
        says("ODDS. NOT: it has no MONTH, or none may be.");
        DoorPost x = still(1000);
        x.child(120, 1000, PLAIN);
        x.mark(1000, SOCKS, NO_MONTH);
        x.mark(1000, SOCKS, 9);
        x.mark(1000, SOCKS, 10);
        x.mark(1000, 10, 11);
        x.mark(1000, 10, 12);
        x.mark(1000, 0, NO_MONTH);
        due(NOT, x.odds(0), "no month");
        due(NOT, x.odds(10), "none is born");
        due(NOT, x.odds(11), "none is born");
        due(1000, x.odds(20), "the month of birth");
        due(NOT, x.odds(31), "the named one is not born");
        due(NOT, x.odds(30), "the named one is not born, another may not be");
        due(1000, x.odds(41), "the named one is born");
        due(NOT, x.odds(50), "a name, but no month");
    }

    private static void oddsOfOneThatMayNotBe() {
        says("of each that is BORN and may be");
        DoorPost x = still(1000, 1100);
        x.child(120, 1000, PLAIN);
        x.mark(1000, SOCKS, 11);
        x.mark(1000, 10, 11);
        x.mark(1000, 30, 11);
        due(0, x.odds(2), "not born, another is");
        due(0, x.odds(10), "named otherwise");
        due(1000, x.odds(11), "named so");
        due(990, x.odds(20), "a name without a child: 10000 of 10099");
        due(9, x.odds(21), "a name without a child: 99 of 10099");
    }

    private static void oddsArguments() {
        says("ODDS (mc). BAD; NOT.");
        DoorPost x = new DoorPost();
        due(BAD, x.odds(0), "no marks, no children");
        x.mark(1000, SOCKS, NO_MONTH);
        due(BAD, x.odds(0), "no children: BAD is named ahead of NOT");
        x.child(0, 1000, PLAIN);
        for (int mc : new int[] {-1, -10, 1, 5, 9, 10, 300, LEAST, GREATEST}) {
            due(BAD, x.odds(mc), "mc " + mc);
        }
        due(NOT, x.odds(0), "no month");
        DoorPost y = new DoorPost();
        y.child(0, 1000, PLAIN);
        due(BAD, y.odds(0), "no marks");
        DoorPost z = still(1000, 1100, 1200, 1300, 1400, 1500);
        for (int mark = 0; mark < 30; mark++) {
            z.mark(1000, mark % 7 * 10, 10);
        }
        for (int mark = 0; mark < 30; mark++) {
            due(mark % 7 == 5 ? 1000 : mark % 7 < 5 ? 0 : 1, z.odds(10 * mark + 5), "mark " + mark + ", child 5");
        }
        due(BAD, z.odds(296), "mark 29, child 6");
        due(BAD, z.odds(300), "mark 30");
    }

    // ---- promise 16

    private static void howOfLikeOnes() {
        says("HOW: of WAYS that by which OFF of a MARK is least (of like ones the least)");
        DoorPost x = still(1024);
        // By the ways 0 to 4: 1024, 1072, 1152, 1000, 1024.
        int[][] told = {{1024, 0}, {1048, 0}, {1049, 1}, {1072, 1}, {1112, 1}, {1113, 2}, {9999, 2}, {1012, 0}, {1011, 3},
            {1000, 3}, {0, 3}};
        for (int i = 0; i < told.length; i++) {
            x.mark(told[i][0], SOCKS, 20);
            due(told[i][1], x.how(i, 0), "height " + told[i][0]);
        }
        DoorPost y = still(1056);
        // 1056, 1104, 1184, 1032, 1088.
        int[][] toldToo = {{1072, 0}, {1073, 4}, {1088, 4}, {1096, 1}, {1095, 4}};
        for (int i = 0; i < toldToo.length; i++) {
            y.mark(toldToo[i][0], SOCKS, 20);
            due(toldToo[i][1], y.how(i, 0), "height " + toldToo[i][0] + ", 1056");
        }
    }

    private static void howWrong() {
        says("WRONG: whether that is below OFF by its own WAY by 32 or more");
        DoorPost x = still(1024);
        int[][] told = {
            // 1063 is 39 off in socks, 9 off shod: 30 below; 1064 is 40 off and 8 off: 32 below.
            {1063, 60, 0}, {1064, 60, 1}, {1065, 60, 1}, {1024, 60, 0}, {1056, 60, 0}, {1063, 64, 0}, {1064, 64, 1},
            // Shod: 1032 is 40 off, in socks 8; 1033 is 39 off, in socks 9.
            {1032, 61, 1}, {1033, 61, 0}, {1072, 61, 0},
            // On tiptoe, in the evening: their own is the least.
            {9999, 62, 0}, {0, 63, 0},
            // 1128 shod: 56 off, on tiptoe 24: 32 below; 1127: 55 and 25.
            {1128, 61, 1}, {1127, 61, 0}};
        for (int i = 0; i < told.length; i++) {
            x.mark(told[i][0], told[i][1], 20);
            due(told[i][2], x.how(i, 1), "height " + told[i][0] + ", nw " + told[i][1]);
        }
        DoorPost y = still(1055);
        // 1055, 1103, 1183, 1031, 1024: 31 and 32 below.
        y.mark(1024, SOCKS, 20);
        y.mark(1023, SOCKS, 20);
        due(4, y.how(0, 0), "rounded");
        due(0, y.how(0, 1), "31 below");
        DoorPost z = still(1056);
        // 1056, 1104, 1184, 1032, 1088.
        z.mark(1088, SOCKS, 20);
        due(4, z.how(0, 0), "rounded");
        due(1, z.how(0, 1), "32 below");
    }

    private static void howNot() {
        says("HOW (what 0), WRONG (1: 1, 0). NOT: none is BORN.");
        DoorPost x = new DoorPost();
        x.mark(1000, SOCKS, NO_MONTH);
        due(NOT, x.how(0, 0), "no children");
        due(NOT, x.how(0, 1), "no children");
        x.child(100, 1000, PLAIN);
        x.child(110, 1000, PLAIN);
        x.mark(1000, SOCKS, 9);
        x.mark(1000, SOCKS, 10);
        x.mark(1000, 10, 10);
        due(0, x.how(0, 0), "some month");
        due(NOT, x.how(1, 0), "the month ahead of birth");
        due(NOT, x.how(1, 1), "the month ahead of birth");
        due(0, x.how(2, 0), "the month of birth");
        due(NOT, x.how(3, 0), "the named one is not born");
        due(NOT, x.how(3, 1), "the named one is not born");
    }

    private static void howArguments() {
        says("HOW. BAD; NOT.");
        DoorPost x = new DoorPost();
        due(BAD, x.how(0, 0), "no marks");
        x.mark(1000, SOCKS, NO_MONTH);
        for (int what : new int[] {-1, 2, LEAST, GREATEST}) {
            due(BAD, x.how(0, what), "BAD is named ahead of NOT, what " + what);
        }
        for (int mark : new int[] {-1, 1, 30, LEAST, GREATEST}) {
            due(BAD, x.how(mark, 0), "mark " + mark);
        }
    }

    // ---- promise 17

    private static void togetherOfNone() {
        says("ALL TOGETHER in a MONTH: the sum (i -1) (no MARKS)");
        DoorPost x = new DoorPost();
        due(0, x.together(0, -1), "no children");
        due(BAD, x.together(0, 0), "no such i");
        DoorPost y = still(1000);
        y.mark(1000, SOCKS, 11);
        due(0, y.together(10, -1), "none in that month");
        due(BAD, y.together(10, 0), "no such i");
        due(0, y.together(9, -1), "none in that month, none born");
        due(0, y.together(11, -1), "one in that month");
        due(0, y.together(11, 0), "one in that month");
        due(BAD, y.together(11, 1), "no such i");
    }

    private static void togetherMoreMarksThanChildren() {
        says("NOT: there are more MARKS than CHILDREN (that is BORN)");
        DoorPost x = new DoorPost();
        law(x, "0");
        x.mark(1000, SOCKS, 10);
        due(NOT, x.together(10, -1), "one mark, no children");
        due(NOT, x.together(10, 0), "one mark, no children");
        due(BAD, x.together(10, 1), "BAD is named ahead of NOT");
        x.child(100, 1000, PLAIN);
        due(0, x.together(10, -1), "one mark, one child, in the month of birth");
        x.mark(1001, SOCKS, 10);
        due(NOT, x.together(10, -1), "two marks, one child");
        due(NOT, x.together(10, 1), "two marks, one child");
        x.child(110, 1000, PLAIN);
        due(NOT, x.together(10, -1), "two marks, two children, one of them not born");
        x.child(100, 1000, PLAIN);
        due(1, x.together(10, -1), "two marks, two that are born");
        due(0, x.together(10, 0), "the first");
        due(2, x.together(10, 1), "the one that is not born is none of them");
        x.mark(1000, SOCKS, 9);
        due(NOT, x.together(9, -1), "none is born");
    }

    private static void togetherFourAtMost() {
        says("4 MARKS at most, the first ones");
        DoorPost x = still(1000, 1100, 1200, 1300);
        for (int i = 0; i < 4; i++) {
            x.mark(1300 - 100 * i, SOCKS, 10);
        }
        due(0, x.together(10, -1), "four");
        x.mark(9999, SOCKS, 10);
        due(0, x.together(10, -1), "a fifth, for four children");
        for (int i = 0; i < 4; i++) {
            due(3 - i, x.together(10, i), "mark " + i);
        }
        due(BAD, x.together(10, 4), "no fifth");
        due(BAD, x.together(10, 5), "no sixth");
        x.child(100, 1400, PLAIN);
        due(0, x.together(10, -1), "a fifth, for five children");
        due(BAD, x.together(10, 4), "no fifth, for five children");
        DoorPost y = still(1000, 1100, 1200);
        for (int i = 0; i < 5; i++) {
            y.mark(1000, SOCKS, 10);
        }
        due(NOT, y.together(10, -1), "four of five, for three children");
        due(NOT, y.together(10, 3), "four of five, for three children");
        due(BAD, y.together(10, 4), "BAD is named ahead of NOT");
    }

    private static void togetherOfLikeOnes() {
        says("the sum of OFFS least (of like ones the first by rows of CHILDREN, MARKS in their order)");
        DoorPost x = still(1000, 1000, 1000);
        x.mark(1000, SOCKS, 10);
        x.mark(1000, SOCKS, 10);
        due(0, x.together(10, 0), "the first row");
        due(1, x.together(10, 1), "the first row");
        DoorPost y = still(1000, 1100);
        y.mark(1050, SOCKS, 10);
        y.mark(1060, SOCKS, 10);
        // By the row 0 1: 50 and 40; by the row 1 0: 50 and 60.
        due(90, y.together(10, -1), "the least");
        due(0, y.together(10, 0), "the least");
        y.mend(0, 0, 1060);
        y.mend(1, 0, 1050);
        due(90, y.together(10, -1), "the least");
        due(1, y.together(10, 0), "the least");
        y.mend(0, 0, 1150);
        y.mend(1, 0, 1150);
        due(200, y.together(10, -1), "like ones");
        due(0, y.together(10, 0), "the first row");
        due(1, y.together(10, 1), "the first row");
        DoorPost z = still(1100, 1000, 1200);
        z.mark(1150, SOCKS, 10);
        z.mark(1150, SOCKS, 10);
        // The rows 0 2 and 2 0 are 100 each.
        due(100, z.together(10, -1), "like ones");
        due(0, z.together(10, 0), "the first of like rows");
        due(2, z.together(10, 1), "the first of like rows");
    }

    private static void togetherWhichMarks() {
        says("MARKS that have a MONTH and no NAME, in one MONTH told");
        DoorPost x = still(1000, 1100);
        x.mark(1100, 0, 10);
        x.mark(1100, 50, 10);
        x.mark(1100, SOCKS, NO_MONTH);
        x.mark(1100, SOCKS, 11);
        due(0, x.together(10, -1), "names, with and without a child, other months");
        due(BAD, x.together(10, 0), "none of these");
        x.mark(1100, 61, 10);
        due(48, x.together(10, -1), "one, by its way: 1148");
        due(1, x.together(10, 0), "one, by its way");
        x.mark(1000, SOCKS, 0);
        x.mark(1000, SOCKS, 599);
        due(NOT, x.together(0, -1), "in the first month");
        due(0, x.together(599, -1), "in the last month");
        due(0, x.together(599, 0), "in the last month");
        x.paint(599);
        due(48, x.together(10, -1), "covered ones too");
    }

    private static void togetherArguments() {
        says("of the i-th such MARK the CHILD. BAD (also no such i); NOT.");
        DoorPost x = still(1000);
        x.mark(1000, SOCKS, 10);
        for (int month : new int[] {-1, 600, 601, LEAST, GREATEST}) {
            due(BAD, x.together(month, -1), "month " + month);
        }
        for (int i : new int[] {-2, 1, 4, LEAST, GREATEST}) {
            due(BAD, x.together(10, i), "i " + i);
        }
        due(0, x.together(10, -1), "i -1");
        due(0, x.together(10, 0), "i 0");
    }

    // ---- promise 18

    private static void turnedNotHigher() {
        says("MARKS of a CHILD that are not higher than one of an earlier MONTH: how many; the first");
        int[][] told = {{999, 1, 1}, {1000, 1, 1}, {1001, 0, NOT}};
        for (int[] t : told) {
            DoorPost x = still(1000);
            x.mark(1000, 0, 20);
            x.mark(t[0], 0, 21);
            due(t[1], x.turned(0, 0), "1000, then " + t[0]);
            due(t[2], x.turned(0, 1), "1000, then " + t[0]);
        }
        DoorPost y = still(1000);
        y.mark(1005, 0, 21);
        y.mark(1000, 0, 22);
        y.mark(1010, 0, 20);
        y.mark(1002, 0, 23);
        due(3, y.turned(0, 0), "higher than the one ahead is not enough");
        due(0, y.turned(0, 1), "the first told");
    }

    private static void turnedEarlierMonth() {
        says("one of an earlier MONTH");
        DoorPost x = still(1000);
        x.mark(1000, 0, 20);
        x.mark(900, 0, 20);
        due(0, x.turned(0, 0), "the same month is not earlier");
        due(NOT, x.turned(0, 1), "the same month is not earlier");
        x.mark(900, 0, 599);
        x.mark(900, 0, 0);
        due(2, x.turned(0, 0), "the first month, the last month: 900 in month 20 and in 599");
        due(1, x.turned(0, 1), "told second");
    }

    private static void turnedNone() {
        says("(NAME and MONTH told); the first (1; NOT)");
        DoorPost x = still(1000, 1000);
        due(0, x.turned(0, 0), "no marks");
        due(NOT, x.turned(0, 1), "no marks");
        x.mark(1000, 0, 20);
        due(0, x.turned(0, 0), "one mark");
        due(NOT, x.turned(0, 1), "one mark");
        x.mark(900, 0, NO_MONTH);
        x.mark(900, SOCKS, 21);
        x.mark(900, 10, 22);
        x.mark(900, 50, 23);
        due(0, x.turned(0, 0), "no month, no name, other names");
        due(NOT, x.turned(0, 1), "no month, no name, other names");
        due(0, x.turned(1, 0), "one mark of the other child");
        x.mark(800, 0, 24);
        due(1, x.turned(0, 0), "one");
        due(5, x.turned(0, 1), "the sixth mark");
    }

    private static void turnedArguments() {
        says("TURNED of a CHILD. BAD.");
        DoorPost none = new DoorPost();
        none.mark(1000, 0, 20);
        none.mark(900, 0, 21);
        due(BAD, none.turned(0, 0), "a name without a child");
        DoorPost x = still(1000);
        for (int child : new int[] {-1, 1, 5, 6, LEAST, GREATEST}) {
            due(BAD, x.turned(child, 0), "child " + child);
        }
        for (int what : new int[] {-1, 2, LEAST, GREATEST}) {
            due(BAD, x.turned(0, what), "what " + what);
        }
    }

    // ---- promise 19

    private static void ledToNone() {
        says("How many MARKS lead to a CHILD by WHOSE.");
        DoorPost x = still(1000, 1100);
        due(0, x.led(0), "no marks");
        x.mark(1000, SOCKS, 9);
        x.mark(1000, 0, 9);
        due(0, x.led(0), "none is born: they lead to none");
        due(0, x.led(1), "none is born: they lead to none");
        x.mark(1050, SOCKS, 10);
        due(1, x.led(0), "as near to both: the first");
        due(0, x.led(1), "as near to both: the first");
        x.mark(1051, SOCKS, NO_MONTH);
        due(1, x.led(1), "nearer to the second");
        for (int i = 4; i < 30; i++) {
            x.mark(1100, SOCKS, NO_MONTH);
        }
        due(27, x.led(1), "all thirty are looked at");
        due(1, x.led(0), "all thirty are looked at");
    }

    private static void ledArguments() {
        says("LED. BAD.");
        DoorPost x = new DoorPost();
        x.mark(1000, 0, NO_MONTH);
        due(BAD, x.led(0), "no children");
        x.child(0, 1000, PLAIN);
        due(1, x.led(0), "one");
        for (int child : new int[] {-1, 1, 5, 6, LEAST, GREATEST}) {
            due(BAD, x.led(child), "child " + child);
        }
    }
}
