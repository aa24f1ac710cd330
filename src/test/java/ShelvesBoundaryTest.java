/** Promises 29 to 38: a test for each sentence of the document that names a boundary. */
public final class ShelvesBoundaryTest {
    private static final int BAD = -1, FULL = -3;
    private static final int LEAST = Integer.MIN_VALUE, GREATEST = Integer.MAX_VALUE;
    private static final long NONE = Long.MIN_VALUE;
    private static final int PLAIN = 244300;
    private static final int BYTES = 0, SHORTS = 1, INTS = 2, LONGS = 3, BOOLEANS = 4;
    private static int wrong = 0;
    private static int asked = 0;
    private static String sentence = "";

    public static void main(String[] args) {
        fiftyBodies();
        kindsOfBodies();
        actsThatWrap();
        actsOfTheGreatestNumber();
        noSuchActor();
        theBodyOfItsOwnKindOrTheNextAbove();
        theTraceAsTheyBegan();
        theTraceOfTheLatestAct();
        theTraceArguments();
        shelvesHoldNothingAtFirst();
        keepNothing();
        keepArguments();
        rowOfNoneToSixty();
        rowSizeBelowZero();
        rowSorts();
        rowZeroAtFirst();
        rowForWhatWasThere();
        putPlaces();
        putLowestBits();
        putBooleans();
        putRefusals();
        elementRefusals();
        elementLeastLong();
        shiftNone();
        shiftUpToTheEnds();
        shiftPlacesThatAreNotThere();
        shiftAsTheyAllWereBefore();
        shiftRefusals();
        shiftSorts();
        takenKinds();
        takenRefusals();
        countAtTheBounds();
        countArguments();
        countOfBodiesThatRan();
        System.out.println(wrong == 0 ? asked + " answers are as due" : wrong + " answers are not as due");
        if (wrong != 0) {
            System.exit(1);
        }
    }

    private static void says(String words) {
        sentence = words;
    }

    private static void due(long want, long got, String call) {
        asked++;
        if (got != want) {
            wrong++;
            System.out.println("\"" + sentence + "\": " + call + " answered " + got + ", due is " + want);
        }
    }

    /** One with a BODY of each KIND: its number is its KIND. */
    private static DoorPost eight() {
        DoorPost x = new DoorPost();
        for (int kind = 0; kind < 8; kind++) {
            x.body(kind);
        }
        return x;
    }

    /** A ROW on a SHELF that holds first, first + 1, .. */
    private static void tell(DoorPost x, int shelf, int sort, int n, int first) {
        x.row(shelf, sort, n);
        for (int i = 0; i < n; i++) {
            x.put(shelf, i, first + i);
        }
    }

    private static void holds(DoorPost x, int shelf, long... values) {
        for (int i = 0; i < values.length; i++) {
            due(values[i], x.element(shelf, i), "shelf " + shelf + ", element " + i);
        }
        due(NONE, x.element(shelf, values.length), "shelf " + shelf + ", behind the last");
    }

    // ---- promise 29

    private static void fiftyBodies() {
        says("BODIES 0 .. 49: A MARK of a KIND is kept: its number. BAD, FULL.");
        DoorPost x = new DoorPost();
        for (int i = 0; i < 50; i++) {
            due(BAD, x.keep(0, i), "not yet body " + i);
            due(i, x.body(i % 8), "body " + i);
            due(i + 1, x.count(5), "bodies");
        }
        due(FULL, x.body(0), "the 51st");
        due(FULL, x.body(7), "the 51st");
        due(BAD, x.body(8), "BAD is named ahead of FULL");
        due(BAD, x.body(-1), "BAD is named ahead of FULL");
        due(50, x.count(5), "bodies");
        due(1, x.keep(0, 49), "the last");
        due(1, x.taken(0, 0), "the last is of kind 1");
        due(BAD, x.keep(0, 50), "no body 50");
        due(0, x.act(50, 0, 1), "no body 50");
        due(1 + 49 + 3, x.act(49, 0, 1), "the last grows");
    }

    private static void kindsOfBodies() {
        says("A MARK of a KIND (0 .. 7). BAD");
        DoorPost x = new DoorPost();
        for (int kind : new int[] {-1, 8, 9, LEAST, GREATEST}) {
            due(BAD, x.body(kind), "kind " + kind);
        }
        due(0, x.count(5), "bodies");
        due(0, x.body(0), "kind 0");
        due(1, x.body(7), "kind 7");
        x.keep(0, 1);
        due(7, x.taken(0, 7), "of kind 7");
    }

    // ---- promise 30

    private static void actsThatWrap() {
        says("ACTS with x (an int that wraps)");
        DoorPost x = eight();
        due(GREATEST, x.act(0, 0, GREATEST), "body 0 grows: 0 more");
        due(LEAST + 3, x.act(1, 0, GREATEST), "body 1 grows: 1 and 3 more");
        due(LEAST + 1, x.act(2, 0, GREATEST), "body 2 grows: 2 more");
        due(-2, x.act(0, 1, GREATEST), "stands: twice the greatest");
        due(0, x.act(0, 1, LEAST), "stands: twice the least");
        due(-4, x.act(2, 1, LEAST), "less twice the least and 2");
        due(LEAST, x.act(0, 2, LEAST), "marks");
        due(GREATEST - 2, x.act(2, 2, GREATEST), "marks");
        due((GREATEST ^ 3) * 3, x.act(3, 2, GREATEST), "three times");
        // stands(x + 1): the least; it grows by 3 and 3, twice that.
        due(12, x.act(3, 1, GREATEST), "x + 1 wraps");
        due(-2 - 1, x.act(0, 3, GREATEST), "tells: -2 less 1");
        due((LEAST + 6 + 3 - 1) * 2, x.act(6, 0, GREATEST), "body 6 grows: twice");
    }

    private static void actsOfTheGreatestNumber() {
        says("n its number");
        DoorPost x = new DoorPost();
        for (int i = 0; i < 50; i++) {
            x.body(0);
        }
        due(0, x.act(0, 0, 0), "body 0");
        due(49, x.act(49, 0, 0), "body 49");
        due(0, x.act(49, 2, 49), "body 49 marks 49");
        due(-50, x.act(49, 2, -1), "body 49 marks -1");
    }

    private static void noSuchActor() {
        says("0, and no TRACE then: no such MARK, ACT.");
        DoorPost none = new DoorPost();
        due(0, none.act(0, 0, 5), "no bodies");
        due(0, none.count(6), "none ran");
        DoorPost x = eight();
        int[][] not = {{-1, 0}, {8, 0}, {49, 0}, {50, 0}, {LEAST, 0}, {GREATEST, 0}, {0, -1}, {0, 4}, {0, LEAST}, {0, GREATEST},
            {8, 4}, {-1, -1}};
        for (int[] n : not) {
            due(11, x.act(1, 0, 7), "an act ahead");
            due(2, x.count(6), "two ran");
            due(20, x.trace(0), "the first that ran");
            due(0, x.act(n[0], n[1], 7), "body " + n[0] + ", act " + n[1]);
            due(0, x.count(6), "none ran");
            due(BAD, x.trace(0), "no trace then");
            due(BAD, x.trace(1), "no trace then");
        }
    }

    private static void theBodyOfItsOwnKindOrTheNextAbove() {
        says("grows(..) and so on: the body of its own KIND, or of the next KIND above that has one; super: from the KIND above the body's on");
        int[][] answers = {{10, 20, 10, 19}, {14, 28, 11, 28}, {12, -24, 8, -27}, {16, 34, 27, 28}, {14, 28, 8, 29},
            {15, 30, 8, 36}, {38, 80, 36, 59}, {17, -29, 13, -36}};
        DoorPost x = eight();
        for (int kind = 0; kind < 8; kind++) {
            for (int act = 0; act < 4; act++) {
                due(answers[kind][act], x.act(kind, act, 10), "kind " + kind + ", act " + act);
            }
        }
    }

    // ---- promise 31

    private static final int[][][] TRACES = {
        {{1}, {10, 1}, {11}, {2, 10, 1, 11}},
        {{20, 1}, {10, 20, 1}, {11}, {2, 10, 20, 1, 11}},
        {{1}, {30, 10, 1}, {11}, {2, 30, 10, 1, 11}},
        {{20, 1}, {41, 10, 20, 1}, {40, 11}, {2, 41, 10, 20, 1, 40, 11}},
        {{1}, {10, 1}, {50, 11, 1}, {2, 10, 1, 50, 11, 1}},
        {{1}, {10, 1}, {50, 11, 1}, {60, 2, 10, 1, 50, 11, 1}},
        {{70, 20, 1}, {41, 10, 70, 20, 1}, {40, 11}, {2, 41, 10, 70, 20, 1, 40, 11}},
        {{1}, {80, 30, 10, 1, 11}, {11}, {81, 2, 80, 30, 10, 1, 11, 11}}};

    private static void theTraceAsTheyBegan() {
        says("THE TRACE: numbers of the bodies that ran in the latest act(), as they began; the first 24 are kept.");
        for (int kind = 0; kind < 8; kind++) {
            DoorPost x = eight();
            for (int act = 0; act < 4; act++) {
                x.act(kind, act, 10);
                int[] ran = TRACES[kind][act];
                due(ran.length, x.count(6), "kind " + kind + ", act " + act + ", how many");
                for (int i = 0; i < ran.length; i++) {
                    due(ran[i], x.trace(i), "kind " + kind + ", act " + act + ", " + i);
                }
                due(BAD, x.trace(ran.length), "kind " + kind + ", act " + act + ", behind the last");
            }
        }
    }

    private static void theTraceOfTheLatestAct() {
        says("in the latest act()");
        DoorPost x = eight();
        due(BAD, x.trace(0), "no act yet");
        x.act(7, 3, 1);
        due(8, x.count(6), "a long one");
        due(81, x.trace(0), "a long one");
        x.act(0, 0, 1);
        due(1, x.count(6), "a short one behind it");
        due(1, x.trace(0), "a short one behind it");
        due(BAD, x.trace(1), "nothing is left of the long one");
        x.body(0);
        x.row(0, 0, 1);
        due(1, x.trace(0), "other calls leave it");
    }

    private static void theTraceArguments() {
        says("THE TRACE's i-th body. BAD.");
        DoorPost x = eight();
        x.act(7, 3, 1);
        for (int i : new int[] {-1, 8, 23, 24, 25, LEAST, GREATEST}) {
            due(BAD, x.trace(i), "i " + i);
        }
        due(81, x.trace(0), "the first");
        due(11, x.trace(7), "the last");
    }

    // ---- promise 32

    private static void shelvesHoldNothingAtFirst() {
        says("SHELVES 0 .. 5 each hold nothing (at first)");
        DoorPost x = new DoorPost();
        for (int shelf = 0; shelf < 6; shelf++) {
            due(-11, x.taken(shelf, 0), "taken from shelf " + shelf);
            due(-11, x.put(shelf, 0, 1), "put on shelf " + shelf);
            due(NONE, x.element(shelf, 0), "element of shelf " + shelf);
            due(-11, x.shift(shelf, 0, shelf, 0, 0), "shift on shelf " + shelf);
        }
    }

    private static void keepNothing() {
        says("A SHELF holds nothing (body -1), or a MARK: 1.");
        DoorPost x = eight();
        due(1, x.keep(0, -1), "nothing for nothing");
        due(-11, x.taken(0, 0), "nothing");
        due(1, x.keep(0, 0), "the first body");
        due(0, x.taken(0, 0), "the first body");
        due(1, x.keep(0, 7), "the last body for the first");
        due(7, x.taken(0, 0), "the last body");
        due(1, x.keep(5, 7), "the same on another shelf");
        due(7, x.taken(5, 0), "the last body");
        due(1, x.keep(0, -1), "nothing for a mark");
        due(-11, x.taken(0, 0), "nothing");
        due(7, x.taken(5, 0), "the other shelf's");
        x.row(0, INTS, 3);
        due(1, x.keep(0, -1), "nothing for a row");
        due(-11, x.put(0, 0, 1), "nothing");
        x.row(0, INTS, 3);
        due(1, x.keep(0, 2), "a mark for a row");
        due(-12, x.put(0, 0, 1), "a mark");
        due(2, x.taken(0, 2), "a mark");
    }

    private static void keepArguments() {
        says("A SHELF holds nothing (body -1), or a MARK. BAD.");
        DoorPost none = new DoorPost();
        due(BAD, none.keep(0, 0), "no bodies");
        due(1, none.keep(0, -1), "nothing");
        DoorPost x = eight();
        x.keep(0, 3);
        for (int body : new int[] {-2, 8, 49, 50, LEAST, GREATEST}) {
            due(BAD, x.keep(0, body), "body " + body);
        }
        for (int shelf : new int[] {-1, 6, LEAST, GREATEST}) {
            due(BAD, x.keep(shelf, 0), "shelf " + shelf);
            due(BAD, x.keep(shelf, -1), "shelf " + shelf);
        }
        due(3, x.taken(0, 0), "a refused call changes nothing");
    }

    // ---- promise 33

    private static void rowOfNoneToSixty() {
        says("of 0 .. 60 elements. BAD (n above 60)");
        for (int sort = BYTES; sort <= BOOLEANS; sort++) {
            DoorPost x = new DoorPost();
            for (int n : new int[] {61, 62, GREATEST}) {
                due(BAD, x.row(0, sort, n), "n " + n);
            }
            due(-11, x.put(0, 0, 1), "nothing is there");
            due(1, x.row(0, sort, 0), "n 0");
            due(-13, x.put(0, 0, 1), "no place");
            due(NONE, x.element(0, 0), "no place");
            due(1, x.row(0, sort, 1), "n 1");
            due(1, x.put(0, 0, 1), "one place");
            due(-13, x.put(0, 1, 1), "no more");
            due(1, x.row(0, sort, 60), "n 60");
            due(1, x.put(0, 59, 1), "sixty places");
            due(1, x.element(0, 59), "sixty places");
            due(-13, x.put(0, 60, 1), "no more");
        }
    }

    private static void rowSizeBelowZero() {
        says("-14 a size below 0");
        DoorPost x = new DoorPost();
        for (int n : new int[] {-1, -60, LEAST}) {
            due(-14, x.row(0, BYTES, n), "n " + n);
            due(-14, x.row(5, BOOLEANS, n), "n " + n);
            due(BAD, x.row(6, BYTES, n), "BAD is named ahead of -14");
            due(BAD, x.row(-1, BYTES, n), "BAD is named ahead of -14");
            due(BAD, x.row(0, 5, n), "BAD is named ahead of -14");
            due(BAD, x.row(0, -1, n), "BAD is named ahead of -14");
        }
        due(-11, x.put(0, 0, 1), "nothing is there");
        tell(x, 0, INTS, 2, 7);
        due(-14, x.row(0, INTS, -1), "a row is there");
        due(BAD, x.row(0, INTS, 61), "a row is there");
        due(BAD, x.row(0, 5, 1), "a row is there");
        holds(x, 0, 7, 8);
    }

    private static void rowSorts() {
        says("a ROW: of 0 bytes, 1 shorts, 2 ints, 3 longs, 4 booleans. BAD (sort)");
        DoorPost x = new DoorPost();
        for (int sort : new int[] {-1, 5, 6, LEAST, GREATEST}) {
            due(BAD, x.row(0, sort, 1), "sort " + sort);
        }
        for (int shelf : new int[] {-1, 6, LEAST, GREATEST}) {
            due(BAD, x.row(shelf, 0, 1), "shelf " + shelf);
        }
        for (int shelf = 0; shelf < 6; shelf++) {
            due(1, x.row(shelf, Math.min(shelf, 4), 1), "shelf " + shelf);
        }
    }

    private static void rowZeroAtFirst() {
        says("0 at first (false)");
        for (int sort = BYTES; sort <= BOOLEANS; sort++) {
            DoorPost x = new DoorPost();
            tell(x, 0, LONGS, 60, 1);
            due(1, x.row(0, sort, 60), "a new row for a full one");
            for (int i = 0; i < 60; i++) {
                due(0, x.element(0, i), "element " + i + ", sort " + sort);
            }
        }
    }

    private static void rowForWhatWasThere() {
        says("A SHELF holds a ROW: 1. (each hold nothing, a MARK, or a ROW)");
        DoorPost x = eight();
        x.keep(0, 3);
        due(1, x.row(0, INTS, 2), "a row for a mark");
        due(-12, x.taken(0, 0), "the mark is gone");
        due(0, x.element(0, 1), "the row is there");
        tell(x, 0, INTS, 5, 1);
        due(1, x.row(0, INTS, 3), "a shorter one");
        due(NONE, x.element(0, 3), "it is shorter");
        due(1, x.row(0, INTS, 5), "a longer one");
        holds(x, 0, 0, 0, 0, 0, 0);
    }

    // ---- promise 34

    private static void putPlaces() {
        says("-13 a place that is not there");
        DoorPost x = new DoorPost();
        x.row(0, INTS, 3);
        for (int i : new int[] {-1, 3, 4, 59, 60, LEAST, GREATEST}) {
            due(-13, x.put(0, i, 1), "place " + i);
            due(NONE, x.element(0, i), "place " + i);
        }
        holds(x, 0, 0, 0, 0);
        due(1, x.put(0, 0, 5), "the first");
        due(1, x.put(0, 2, 7), "the last");
        holds(x, 0, 5, 0, 7);
    }

    private static void putLowestBits() {
        says("what is put in keeps its lowest bits");
        long[][] told = {
            // what is put; as byte, short, int, long
            {127, 127, 127, 127, 127}, {128, -128, 128, 128, 128}, {255, -1, 255, 255, 255}, {256, 0, 256, 256, 256},
            {-128, -128, -128, -128, -128}, {-129, 127, -129, -129, -129}, {32767, -1, 32767, 32767, 32767},
            {32768, 0, -32768, 32768, 32768}, {-32769, -1, 32767, -32769, -32769}, {65535, -1, -1, 65535, 65535},
            {65536, 0, 0, 65536, 65536}, {2147483647L, -1, -1, 2147483647L, 2147483647L},
            {2147483648L, 0, 0, -2147483648L, 2147483648L}, {-2147483649L, -1, -1, 2147483647L, -2147483649L},
            {4294967296L, 0, 0, 0, 4294967296L}, {Long.MAX_VALUE, -1, -1, -1, Long.MAX_VALUE}, {Long.MIN_VALUE, 0, 0, 0, Long.MIN_VALUE},
            {Long.MIN_VALUE + 1, 1, 1, 1, Long.MIN_VALUE + 1}, {-1, -1, -1, -1, -1}, {0, 0, 0, 0, 0}};
        for (int sort = BYTES; sort <= LONGS; sort++) {
            DoorPost x = new DoorPost();
            x.row(0, sort, 3);
            for (long[] t : told) {
                due(1, x.put(0, 1, t[0]), "put " + t[0]);
                due(t[1 + sort], x.element(0, 1), t[0] + ", sort " + sort);
            }
            due(0, x.element(0, 0), "the one ahead");
            due(0, x.element(0, 2), "the one behind");
        }
    }

    private static void putBooleans() {
        says("(a boolean: whether it is not 0; 1 or 0)");
        DoorPost x = new DoorPost();
        x.row(0, BOOLEANS, 1);
        for (long v : new long[] {1, -1, 2, 255, 256, 4294967296L, Long.MAX_VALUE, Long.MIN_VALUE}) {
            due(1, x.put(0, 0, v), "put " + v);
            due(1, x.element(0, 0), "put " + v);
            due(1, x.put(0, 0, 0), "put 0");
            due(0, x.element(0, 0), "put 0");
        }
    }

    private static void putRefusals() {
        says("Element i of a ROW becomes v: 1. BAD, -11, -12, -13.");
        DoorPost x = eight();
        for (int shelf : new int[] {-1, 6, LEAST, GREATEST}) {
            due(BAD, x.put(shelf, 0, 1), "shelf " + shelf);
            due(BAD, x.put(shelf, -1, 1), "BAD is named ahead of -13");
        }
        due(-11, x.put(0, 0, 1), "nothing is there");
        due(-11, x.put(0, -1, 1), "-11 is named ahead of -13");
        due(-11, x.put(0, 60, 1), "-11 is named ahead of -13");
        x.keep(0, 0);
        due(-12, x.put(0, 0, 1), "a mark");
        due(-12, x.put(0, -1, 1), "-12 is named ahead of -13");
        due(-12, x.put(0, 60, 1), "-12 is named ahead of -13");
        due(0, x.taken(0, 0), "the mark is there still");
    }

    // ---- promise 35

    private static void elementRefusals() {
        says("Element i of a ROW; Long.MIN_VALUE: BAD, -11 to -13.");
        DoorPost x = eight();
        for (int shelf : new int[] {-1, 6, LEAST, GREATEST}) {
            due(NONE, x.element(shelf, 0), "shelf " + shelf);
        }
        due(NONE, x.element(0, 0), "nothing is there");
        x.keep(0, 0);
        due(NONE, x.element(0, 0), "a mark");
        tell(x, 0, BYTES, 2, 5);
        due(NONE, x.element(0, -1), "place -1");
        due(NONE, x.element(0, 2), "place 2");
        due(NONE, x.element(0, LEAST), "the least place");
        due(NONE, x.element(0, GREATEST), "the greatest place");
        due(5, x.element(0, 0), "the first");
        due(6, x.element(0, 1), "the last");
    }

    private static void elementLeastLong() {
        says("Element i of a ROW (of longs)");
        DoorPost x = new DoorPost();
        x.row(0, LONGS, 1);
        x.put(0, 0, Long.MAX_VALUE);
        due(Long.MAX_VALUE, x.element(0, 0), "the greatest");
        x.put(0, 0, Long.MIN_VALUE);
        due(Long.MIN_VALUE, x.element(0, 0), "the least: an element too");
    }

    // ---- promise 36

    private static void shiftNone() {
        says("n elements of a ROW from i on come to another one (or the same) from j on: n (none)");
        DoorPost x = new DoorPost();
        tell(x, 0, INTS, 3, 10);
        tell(x, 1, INTS, 2, 20);
        x.row(2, INTS, 0);
        due(0, x.shift(0, 0, 1, 0, 0), "none, from the beginnings");
        due(0, x.shift(0, 3, 1, 2, 0), "none, from the ends");
        due(0, x.shift(2, 0, 2, 0, 0), "none, of none");
        due(-13, x.shift(0, 4, 1, 0, 0), "none, behind the end");
        due(-13, x.shift(0, 0, 1, 3, 0), "none, behind the other's end");
        due(-13, x.shift(0, -1, 1, 0, 0), "none, ahead of the row");
        due(-13, x.shift(0, 0, 1, -1, 0), "none, ahead of the other row");
        due(-13, x.shift(2, 0, 2, 0, 1), "one, of none");
        holds(x, 0, 10, 11, 12);
        holds(x, 1, 20, 21);
    }

    private static void shiftUpToTheEnds() {
        says("n elements of a ROW from i on come to another one from j on: n (up to the ends)");
        DoorPost x = new DoorPost();
        tell(x, 0, INTS, 3, 10);
        tell(x, 1, INTS, 5, 20);
        due(3, x.shift(0, 0, 1, 2, 3), "all, to the other's end");
        holds(x, 1, 20, 21, 10, 11, 12);
        due(1, x.shift(1, 4, 0, 2, 1), "the last to the last");
        holds(x, 0, 10, 11, 12);
        due(2, x.shift(1, 0, 0, 1, 2), "the first two");
        holds(x, 0, 10, 20, 21);
        DoorPost y = new DoorPost();
        tell(y, 0, LONGS, 60, 0);
        y.row(1, LONGS, 60);
        due(60, y.shift(0, 0, 1, 0, 60), "sixty");
        due(59, y.element(1, 59), "the last of sixty");
        due(-13, y.shift(0, 0, 1, 0, 61), "sixty-one");
    }

    private static void shiftPlacesThatAreNotThere() {
        says("-13: a place that is not there");
        DoorPost x = new DoorPost();
        tell(x, 0, INTS, 3, 10);
        tell(x, 1, INTS, 5, 20);
        int[][] places = {{-1, 0, 1}, {0, -1, 1}, {-1, -1, 2}, {0, 0, 4}, {1, 0, 3}, {2, 0, 2}, {3, 0, 1}, {0, 5, 1}, {0, 3, 3},
            {0, 4, 2}, {0, 0, -1}, {1, 1, -1}, {0, 0, LEAST}, {0, 0, GREATEST}, {1, 0, GREATEST}, {0, 1, GREATEST},
            {GREATEST, 0, 1}, {0, GREATEST, 1}, {GREATEST, 0, GREATEST}, {LEAST, 0, 1}, {0, LEAST, 1}, {LEAST, LEAST, LEAST},
            {GREATEST, GREATEST, 0}};
        for (int[] p : places) {
            due(-13, x.shift(0, p[0], 1, p[1], p[2]), "from " + p[0] + " to " + p[1] + ", " + p[2]);
        }
        holds(x, 0, 10, 11, 12);
        holds(x, 1, 20, 21, 22, 23, 24);
        due(-13, x.shift(1, 0, 1, 3, 3), "within one, behind its end");
        holds(x, 1, 20, 21, 22, 23, 24);
    }

    private static void shiftAsTheyAllWereBefore() {
        says("(or the same), as they all were before");
        for (int sort = BYTES; sort <= LONGS; sort++) {
            DoorPost x = new DoorPost();
            tell(x, 0, sort, 5, 1);
            due(4, x.shift(0, 0, 0, 1, 4), "up by one");
            holds(x, 0, 1, 1, 2, 3, 4);
            tell(x, 0, sort, 5, 1);
            due(4, x.shift(0, 1, 0, 0, 4), "down by one");
            holds(x, 0, 2, 3, 4, 5, 5);
            tell(x, 0, sort, 5, 1);
            due(5, x.shift(0, 0, 0, 0, 5), "to itself");
            holds(x, 0, 1, 2, 3, 4, 5);
            due(2, x.shift(0, 0, 0, 3, 2), "apart");
            holds(x, 0, 1, 2, 3, 1, 2);
        }
    }

    private static void shiftRefusals() {
        says("BAD, -11 (either), -12 (no ROWS, or of unlike sorts), -13.");
        DoorPost x = eight();
        x.keep(1, 0);
        x.row(2, INTS, 3);
        x.row(3, LONGS, 3);
        x.row(4, INTS, 3);
        for (int shelf : new int[] {-1, 6, LEAST, GREATEST}) {
            due(BAD, x.shift(shelf, 0, 2, 0, 1), "from shelf " + shelf);
            due(BAD, x.shift(2, 0, shelf, 0, 1), "to shelf " + shelf);
            due(BAD, x.shift(shelf, 0, 0, 0, 1), "BAD is named ahead of -11");
            due(BAD, x.shift(0, 0, shelf, 0, 1), "BAD is named ahead of -11");
        }
        due(-11, x.shift(0, 0, 2, 0, 1), "nothing is in the one");
        due(-11, x.shift(2, 0, 0, 0, 1), "nothing is in the other");
        due(-11, x.shift(0, 0, 0, 0, 1), "nothing is in either");
        due(-11, x.shift(0, 0, 1, 0, 1), "-11 is named ahead of -12");
        due(-11, x.shift(1, 0, 0, 0, 1), "-11 is named ahead of -12");
        due(-11, x.shift(0, -1, 2, 9, -1), "-11 is named ahead of -13");
        due(-12, x.shift(1, 0, 2, 0, 1), "the one is a mark");
        due(-12, x.shift(2, 0, 1, 0, 1), "the other is a mark");
        due(-12, x.shift(1, 0, 1, 0, 0), "both are marks");
        due(-12, x.shift(2, 0, 3, 0, 1), "unlike sorts");
        due(-12, x.shift(3, 0, 2, 0, 0), "unlike sorts, none to shift");
        due(-12, x.shift(2, -1, 3, 9, -1), "-12 is named ahead of -13");
        due(-13, x.shift(2, -1, 4, 0, 1), "like sorts, no place");
        due(1, x.shift(2, 0, 4, 0, 1), "like sorts");
    }

    private static void shiftSorts() {
        says("-12 (of unlike sorts)");
        for (int one = BYTES; one <= BOOLEANS; one++) {
            for (int other = BYTES; other <= BOOLEANS; other++) {
                DoorPost x = new DoorPost();
                x.row(0, one, 2);
                x.put(0, 1, 1);
                x.row(1, other, 2);
                due(one == other ? 2 : -12, x.shift(0, 0, 1, 0, 2), "sort " + one + " to sort " + other);
                due(one == other ? 1 : 0, x.element(1, 1), "sort " + one + " to sort " + other);
            }
        }
    }

    // ---- promise 37

    private static void takenKinds() {
        says("taken for a MARK of KIND k (0 .. 7), or under it: its KIND. -12");
        int[][] under = {{0}, {1, 0}, {2, 0}, {3, 1, 0}, {4, 0}, {5, 4, 0}, {6, 3, 1, 0}, {7, 2, 0}};
        DoorPost x = eight();
        for (int kind = 0; kind < 8; kind++) {
            x.keep(0, kind);
            for (int k = 0; k < 8; k++) {
                boolean is = false;
                for (int u : under[kind]) {
                    is |= u == k;
                }
                due(is ? kind : -12, x.taken(0, k), "kind " + kind + " taken for " + k);
            }
        }
    }

    private static void takenRefusals() {
        says("What a SHELF holds, taken for a MARK of KIND k. BAD, -11, -12.");
        DoorPost x = eight();
        for (int shelf : new int[] {-1, 6, LEAST, GREATEST}) {
            due(BAD, x.taken(shelf, 0), "shelf " + shelf);
        }
        for (int k : new int[] {-1, 8, LEAST, GREATEST}) {
            due(BAD, x.taken(0, k), "BAD is named ahead of -11, kind " + k);
        }
        for (int k = 0; k < 8; k++) {
            due(-11, x.taken(0, k), "nothing is there, kind " + k);
        }
        x.row(0, INTS, 0);
        due(BAD, x.taken(0, 8), "BAD is named ahead of -12");
        for (int k = 0; k < 8; k++) {
            due(-12, x.taken(0, k), "a row, kind " + k);
        }
        x.keep(0, 1);
        due(BAD, x.taken(0, 8), "BAD is named ahead of -12");
        due(-12, x.taken(0, 2), "beside it");
        due(-12, x.taken(0, 3), "under it");
        due(1, x.taken(0, 1), "it");
        due(1, x.taken(0, 0), "above it");
    }

    // ---- promise 38

    private static void countAtTheBounds() {
        says("How many: 0 CHILDREN, 1 WANTS, 2 MARKS, 3 bytes on THE TAPE, 4 changes that may be UNDONE, 5 BODIES");
        DoorPost x = new DoorPost();
        for (int i = 0; i < 7; i++) {
            x.child(0, 1280, PLAIN);
        }
        for (int i = 0; i < 11; i++) {
            x.want(0, 1);
        }
        for (int i = 0; i < 31; i++) {
            x.mark(0, 60, 600);
        }
        for (int i = 0; i < 121; i++) {
            x.feed('1');
        }
        for (int i = 0; i < 41; i++) {
            x.mend(0, 0, i + 1);
        }
        for (int i = 0; i < 51; i++) {
            x.body(0);
        }
        int[] counts = {6, 10, 30, 120, 40, 50, 0};
        for (int what = 0; what < 7; what++) {
            due(counts[what], x.count(what), "full, count " + what);
        }
        DoorPost y = new DoorPost();
        for (int what = 0; what < 7; what++) {
            due(0, y.count(what), "empty, count " + what);
        }
    }

    private static void countArguments() {
        says("How many. BAD.");
        DoorPost x = new DoorPost();
        for (int what : new int[] {-1, 7, 8, LEAST, GREATEST}) {
            due(BAD, x.count(what), "what " + what);
        }
    }

    private static void countOfBodiesThatRan() {
        says("6 bodies that ran in the latest act() (all, kept or not)");
        DoorPost x = eight();
        due(0, x.count(6), "no act yet");
        for (int kind = 0; kind < 8; kind++) {
            for (int act = 0; act < 4; act++) {
                x.act(kind, act, 10);
                due(TRACES[kind][act].length, x.count(6), "kind " + kind + ", act " + act);
            }
        }
        x.act(8, 0, 1);
        due(0, x.count(6), "a refused act");
    }
}
