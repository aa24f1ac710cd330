/** Promises 20 to 28: a test for each sentence of the document that names a boundary. */
public final class TallBoundaryTest {
    private static final int BAD = -1, NOT = -2, STATE = -5, VOID = -2000000000;
    private static final int LEAST = Integer.MIN_VALUE, GREATEST = Integer.MAX_VALUE;
    // LATE 0, PARENTS 4300.
    private static final int PLAIN = 244300;
    private static int wrong = 0;
    private static int asked = 0;
    private static String sentence = "";

    public static void main(String[] args) {
        endAtMostInTheLastMonth();
        twiceBeyondTheLastMonth();
        byParents();
        farOff();
        tallArguments();
        yearsThatAreThere();
        twentyYears();
        yearOfLikeOnes();
        yearArguments();
        lineBeforeBirth();
        lineCut();
        lineOfTheOther();
        lineOfTheGreatest();
        lineArguments();
        fallsByTwo();
        fallsBelowTheGreatest();
        fallsAtTheEnds();
        fallsArguments();
        overtakesHigherThanNotHigher();
        overtakesBehindBothBorn();
        overtakesAtTheEnds();
        overtakesArguments();
        enoughMonths();
        enoughInThought();
        enoughBesideFullWants();
        enoughArguments();
        slipsHowOften();
        slipsUpToV();
        slipsSeed();
        slipsNotBorn();
        slipsArguments();
        undoNone();
        redoNone();
        undoTheLatestFirst();
        anotherCameBehind();
        noOtherCameBehind();
        fortyAreKept();
        fortyOfSeveral();
        fortyAndDoneAgain();
        System.out.println(wrong == 0 ? asked + " answers are as due" : wrong + " answers are not as due");
        if (wrong != 0) {
            System.exit(1);
        }
    }

    private static void says(String words) {
        sentence = words;
    }

    private static void due(long want, long got, String call) {
        asked++;
        if (got != want) {
            wrong++;
            System.out.println("\"" + sentence + "\": " + call + " answered " + got + ", due is " + want);
        }
    }

    private static int law(DoorPost x, String text) {
        for (int i = 0; i < text.length(); i++) {
            x.feed(text.charAt(i));
        }
        return x.law();
    }

    /** CHILDREN of SEX 0 and LENGTH 1000, born in these MONTHS, who grow by a text. */
    private static DoorPost born(String text, int... months) {
        DoorPost x = new DoorPost();
        law(x, text);
        for (int month : months) {
            x.child(10 * month, 1000, PLAIN);
        }
        return x;
    }

    // ---- promise 20

    private static void endAtMostInTheLastMonth() {
        says("END of a CHILD: HEIGHT 240 MONTHS behind BORN (599 at most)");
        DoorPost x = born("10", 0, 358, 359, 360, 598, 599);
        int[] ends = {1000 + 2400, 1000 + 2400, 1000 + 2400, 1000 + 2390, 1010, 1000};
        for (int child = 0; child < 6; child++) {
            due(ends[child], x.tall(child, 0), "end of child " + child);
        }
        DoorPost y = born("a=240?50;a>240?99;0", 0);
        due(1050, y.tall(0, 0), "the 240th month counts, the next doesn't");
    }

    private static void twiceBeyondTheLastMonth() {
        says("TWICE: two times HEIGHT 24 MONTHS behind (NOT: that is beyond 599)");
        DoorPost x = born("10", 0, 574, 575, 576, 599);
        int[] twice = {2480, 2480, 2480, NOT, NOT};
        for (int child = 0; child < 5; child++) {
            due(twice[child], x.tall(child, 1), "twice of child " + child);
        }
        DoorPost y = born("a=24?50;a>24?99;0", 0);
        due(2100, y.tall(0, 1), "the 24th month counts, the next doesn't");
    }

    private static void byParents() {
        says("BY PARENTS: PARENTS and 160 (SEX 1), less 160 (SEX 0)");
        DoorPost x = new DoorPost();
        x.child(0, 500, 243000);
        x.child(1, 500, 243000);
        x.child(0, 500, 246000);
        x.child(1, 500, 246000);
        int[] by = {2840, 3160, 5840, 6160};
        for (int child = 0; child < 4; child++) {
            due(by[child], x.tall(child, 2), "child " + child);
        }
    }

    private static void farOff() {
        says("END less TWICE (3; VOID is NOT there), END less BY PARENTS (4)");
        DoorPost x = born("10", 0, 575, 576);
        due(3400 - 2480, x.tall(0, 3), "taller than twice");
        due(1240 - 2480, x.tall(1, 3), "less tall than twice");
        due(VOID, x.tall(2, 3), "twice is beyond");
        due(3400 - 4140, x.tall(0, 4), "less tall than by parents");
        due(1230 - 4140, x.tall(2, 4), "twice is beyond, parents are not");
        DoorPost y = born("99", 0);
        due(8000 - 4140, y.tall(0, 4), "taller than by parents");
        due(8000 - 2 * (1000 + 24 * 99), y.tall(0, 3), "taller than twice");
        DoorPost z = born("a=240?38;a<25?40;0", 0);
        due(1000 + 960 + 38 - 3920, z.tall(0, 3), "less tall than twice");
    }

    private static void tallArguments() {
        says("END (what 0) .. END less BY PARENTS (4). VOID: BAD.");
        DoorPost x = new DoorPost();
        for (int what = 0; what < 5; what++) {
            due(VOID, x.tall(0, what), "no children, what " + what);
        }
        x.child(0, 500, PLAIN);
        for (int what : new int[] {-1, 5, LEAST, GREATEST}) {
            due(VOID, x.tall(0, what), "what " + what);
        }
        for (int child : new int[] {-1, 1, 5, 6, LEAST, GREATEST}) {
            due(VOID, x.tall(child, 0), "child " + child);
        }
    }

    // ---- promise 21

    private static void yearsThatAreThere() {
        says("YEAR: of 12 MONTHS each from BORN on (as far as all are there); NOT");
        DoorPost x = born("a<13?1;2", 575, 576, 587, 588, 599);
        int[][] told = {{1, 24, 0, 12}, {0, 12, 0, 12}, {0, 12, 0, 12}, {NOT, NOT, NOT, NOT}, {NOT, NOT, NOT, NOT}};
        for (int child = 0; child < 5; child++) {
            for (int what = 0; what < 4; what++) {
                due(told[child][what], x.year(child, what), "child " + child + ", what " + what);
            }
        }
    }

    private static void twentyYears() {
        says("YEAR: (20 of them, as far as all are there)");
        DoorPost x = born("a>228&a<241?5;1", 0, 359, 360);
        due(19, x.year(0, 0), "the twentieth");
        due(60, x.year(0, 1), "the twentieth");
        due(19, x.year(1, 0), "the twentieth ends in the last month");
        due(0, x.year(2, 0), "the twentieth isn't whole");
        due(12, x.year(2, 1), "the twentieth isn't whole");
        DoorPost y = born("a>240?9;1", 0);
        due(0, y.year(0, 0), "there is no twenty-first");
        due(12, y.year(0, 1), "there is no twenty-first");
        DoorPost z = born("a>240?0;1", 0);
        due(0, z.year(0, 2), "there is no twenty-first");
        due(12, z.year(0, 3), "there is no twenty-first");
    }

    private static void yearOfLikeOnes() {
        says("that in which it grows most (or least): of like ones the first: how much");
        DoorPost x = born("a<13?2;a<25?3;a<37?3;a<49?1;a<61?1;2", 0);
        due(1, x.year(0, 0), "of most the first");
        due(36, x.year(0, 1), "how much");
        due(3, x.year(0, 2), "of least the first");
        due(12, x.year(0, 3), "how much");
        DoorPost y = born("0", 0);
        for (int what = 0; what < 4; what++) {
            due(0, y.year(0, what), "all like, what " + what);
        }
        DoorPost z = born("a=12?7;a=13?9;0", 0);
        due(1, z.year(0, 0), "the thirteenth month is in the second year");
        due(9, z.year(0, 1), "the thirteenth month");
        due(2, z.year(0, 2), "the first year without growth");
    }

    private static void yearArguments() {
        says("YEAR: of most (what 0), how much (1), of least (2), how much (3). BAD; NOT.");
        DoorPost x = new DoorPost();
        due(BAD, x.year(0, 0), "no children");
        x.child(0, 500, PLAIN);
        x.child(5990, 500, PLAIN);
        for (int what : new int[] {-1, 4, LEAST, GREATEST}) {
            due(BAD, x.year(0, what), "what " + what);
            due(BAD, x.year(1, what), "BAD is named ahead of NOT, what " + what);
        }
        for (int child : new int[] {-1, 2, 5, 6, LEAST, GREATEST}) {
            due(BAD, x.year(child, 0), "child " + child);
        }
    }

    // ---- promise 22

    private static void lineBeforeBirth() {
        says("LINE: NOT is -1000 here: it is not BORN");
        DoorPost x = born("0", 0, 100, 599);
        due(-5, x.line(0, 0), "the first month, 100000 by 1280 is 78, 22 below");
        due(-1000, x.line(1, 0), "the first month");
        due(-1000, x.line(1, 99), "the month ahead of birth");
        due(-5, x.line(1, 100), "the month of birth");
        due(-1000, x.line(2, 598), "the month ahead of birth");
        due(-5, x.line(2, 599), "the last month");
    }

    private static void lineCut() {
        says("100 times HEIGHT by what one of LENGTH 1280 .. has at that age, less 100, by 4 (cut)");
        int[][] told = {{1280, 0}, {1292, 0}, {1331, 0}, {1332, 1}, {1382, 1}, {1383, 2}, {1279, 0}, {1242, 0}, {1241, -1},
            {1229, -1}, {1228, -1}, {1191, -1}, {1190, -2}, {500, -15}, {2000, 14}};
        for (int[] t : told) {
            DoorPost x = new DoorPost();
            law(x, "0");
            x.child(0, t[0], PLAIN);
            due(t[1], x.line(0, 0), "length " + t[0]);
        }
    }

    private static void lineOfTheOther() {
        says("one of LENGTH 1280, LATE 0, without WANT, its SEX, PARENTS 4300 (in the same MONTHS; CHILD 6)");
        DoorPost x = new DoorPost();
        x.child(51, 1280, PLAIN);
        law(x, "k=6?64;0");
        due(-1, x.line(0, 6), "child 6: 128000 by 1344 is 95");
        law(x, "s=0?64;0");
        due(0, x.line(0, 6), "its sex");
        law(x, "m=6?64;0");
        due(0, x.line(0, 6), "the same months");
        law(x, "w=0?64;0");
        due(0, x.line(0, 6), "no want yet");
        x.want(6006, 1);
        due(-1, x.line(0, 6), "without want");
        x.mend(0, 2, 1);
        law(x, "a=1?64;0");
        due(-1, x.line(0, 6), "late 0");
        x.mend(0, 3, 4400);
        law(x, "p=67?64;0");
        due(-1, x.line(0, 6), "parents 4300");
        law(x, "p=68?64;0");
        due(1, x.line(0, 6), "4400 has 68: 134400 by 1280 is 105");
    }

    private static void lineOfTheGreatest() {
        says("LINE (the farthest off)");
        DoorPost x = new DoorPost();
        law(x, "k=6?0;99");
        x.child(0, 2000, PLAIN);
        due((625 - 100) / 4, x.line(0, 599), "8000 by 1280");
        law(x, "k=6?99;0");
        due((25 - 100) / 4, x.line(0, 599), "2000 by 8000");
        x.child(0, 500, PLAIN);
        due((6 - 100) / 4, x.line(1, 599), "500 by 8000");
    }

    private static void lineArguments() {
        says("LINE. VOID: BAD; NOT is -1000 here.");
        DoorPost x = new DoorPost();
        due(VOID, x.line(0, 0), "no children");
        x.child(100, 1280, PLAIN);
        for (int month : new int[] {-1, 600, LEAST, GREATEST}) {
            due(VOID, x.line(0, month), "month " + month);
        }
        for (int child : new int[] {-1, 1, 5, 6, LEAST, GREATEST}) {
            due(VOID, x.line(child, 0), "BAD is named ahead of NOT, child " + child);
            due(VOID, x.line(child, 10), "child " + child);
        }
    }

    // ---- promise 23

    private static void fallsByTwo() {
        says("FALLS: the first MONTH in which LINE is 2 or more below the greatest one ahead");
        // 128000 by 1288, 1296, 1304, .. : below 97 from 1320 on, below 93 from 1384 on.
        DoorPost x = new DoorPost();
        law(x, "k=6?8;0");
        x.child(0, 1280, PLAIN);
        due(0, x.line(0, 4), "97");
        due(-1, x.line(0, 5), "96");
        due(-1, x.line(0, 12), "93");
        due(-2, x.line(0, 13), "92");
        due(13, x.falls(0), "two below");
        DoorPost y = new DoorPost();
        law(y, "k=6&a<13?8;0");
        y.child(0, 1280, PLAIN);
        due(-1, y.line(0, 599), "one below, to the end");
        due(NOT, y.falls(0), "one below is none");
        DoorPost z = new DoorPost();
        law(z, "k=6?99;0");
        z.child(0, 2000, PLAIN);
        due(14, z.line(0, 0), "156");
        due(11, z.line(0, 1), "200000 by 1379 is 145");
        due(1, z.falls(0), "three below");
    }

    private static void fallsBelowTheGreatest() {
        says("below the greatest one ahead");
        // From 0 up to 1 (1332) in month 4, 2 (1383: month 8), then the other catches up by 13 a month.
        DoorPost x = new DoorPost();
        law(x, "k<6&a<9?13;k=6&a>20?13;0");
        x.child(0, 1280, PLAIN);
        due(2, x.line(0, 8), "138400 by 1280 is 108");
        due(2, x.line(0, 20), "108");
        due(1, x.line(0, 21), "138400 by 1293 is 107");
        due(1, x.line(0, 23), "138400 by 1319 is 104");
        due(0, x.line(0, 24), "138400 by 1332 is 103");
        due(24, x.falls(0), "two below the greatest, not below the first");
        DoorPost y = new DoorPost();
        law(y, "k<6&a>9&a<12?50;k=6?4;0");
        y.child(0, 1280, PLAIN);
        due(1, y.line(0, 11), "138000 by 1324 is 104");
        due(0, y.line(0, 35), "138000 by 1420 is 97");
        due(-1, y.line(0, 36), "138000 by 1424 is 96");
        due(36, y.falls(0), "two below the greatest, one below the first");
    }

    private static void fallsAtTheEnds() {
        says("FALLS: the first MONTH; NOT");
        DoorPost x = born("0", 0, 599);
        due(NOT, x.falls(0), "along one line");
        due(NOT, x.falls(1), "born in the last month");
        law(x, "k=6&a=599?99;0");
        due(599, x.falls(0), "in the last month");
        law(x, "k=6&a=600?99;0");
        due(NOT, x.falls(0), "behind the last month");
        law(x, "k=6&a=1?99;0");
        due(1, x.falls(0), "in the first month behind birth: 78 to 72, -5 to -7");
        DoorPost y = born("k=6&m=1?99;0", 300, 100);
        due(301, y.falls(0), "a month of the post, not of the child");
        due(109, y.falls(1), "a month of the post, not of the child");
    }

    private static void fallsArguments() {
        says("FALLS. BAD; NOT.");
        DoorPost x = new DoorPost();
        due(BAD, x.falls(0), "no children");
        x.child(0, 1280, PLAIN);
        for (int child : new int[] {-1, 1, 5, 6, LEAST, GREATEST}) {
            due(BAD, x.falls(child), "child " + child);
        }
    }

    // ---- promise 24

    private static void overtakesHigherThanNotHigher() {
        says("the first MONTH in which the one is higher than the other, having been not higher in the MONTH ahead");
        DoorPost x = new DoorPost();
        law(x, "k=1?10;0");
        x.child(0, 1050, PLAIN);
        x.child(0, 1000, PLAIN);
        x.child(0, 1051, PLAIN);
        x.child(0, 1050, PLAIN);
        due(6, x.overtakes(10), "as high in month 5, higher in month 6");
        due(6, x.overtakes(12), "one below in month 5, higher in month 6");
        due(NOT, x.overtakes(1), "the one overtaken");
        due(NOT, x.overtakes(3), "as high to the end");
        due(NOT, x.overtakes(30), "as high to the end");
        due(NOT, x.overtakes(20), "higher from birth on");
        DoorPost y = new DoorPost();
        law(y, "m=k*6?20;0");
        y.child(0, 1005, PLAIN);
        y.child(0, 1000, PLAIN);
        // 0 grows in months 12, 24, .., 1 in months 6, 18, ..
        due(6, y.overtakes(10), "the first of several");
        due(12, y.overtakes(1), "the first of several");
    }

    private static void overtakesBehindBothBorn() {
        says("(behind both BORN)");
        DoorPost x = new DoorPost();
        law(x, "k=0?10;0");
        x.child(0, 1000, PLAIN);
        x.child(200, 1195, PLAIN);
        x.child(200, 1200, PLAIN);
        x.child(200, 1201, PLAIN);
        x.child(200, 1210, PLAIN);
        // Child 0 has 1200 in month 20, in which the others are born.
        due(NOT, x.overtakes(1), "higher at the other's birth");
        due(21, x.overtakes(2), "as high at the other's birth");
        due(21, x.overtakes(3), "one below at the other's birth");
        due(22, x.overtakes(4), "ten below at the other's birth");
        due(NOT, x.overtakes(30), "higher at its own birth");
        due(NOT, x.overtakes(40), "higher at its own birth, overtaken then");
    }

    private static void overtakesAtTheEnds() {
        says("OVERTAKES: the first MONTH; NOT");
        DoorPost x = born("k=0&m=11?5;0", 598, 598, 599, 599);
        due(599, x.overtakes(1), "in the last month");
        due(NOT, x.overtakes(10), "never");
        due(NOT, x.overtakes(2), "the other is born in the last month");
        due(NOT, x.overtakes(23), "both are born in the last month");
        DoorPost y = born("k=0&a=1?5;0", 0, 0);
        due(1, y.overtakes(1), "in the first month behind birth");
        DoorPost z = born("k=0&a=599?5;0", 0, 0);
        due(599, z.overtakes(1), "in the last month");
    }

    private static void overtakesArguments() {
        says("OVERTAKES (cd: 10 times the one and the other). BAD (one and the same); NOT.");
        DoorPost x = new DoorPost();
        due(BAD, x.overtakes(0), "no children");
        due(BAD, x.overtakes(1), "no children");
        x.child(0, 1000, PLAIN);
        due(BAD, x.overtakes(0), "one and the same");
        due(BAD, x.overtakes(1), "one child");
        due(BAD, x.overtakes(10), "one child");
        x.child(0, 1000, PLAIN);
        for (int cd : new int[] {-1, -10, 0, 11, 2, 9, 12, 20, 21, 22, 100, LEAST, GREATEST}) {
            due(BAD, x.overtakes(cd), "cd " + cd);
        }
        due(NOT, x.overtakes(1), "two");
        due(NOT, x.overtakes(10), "two");
        // Child k has 1000 - 10 k + 20 k t (held: 99 at most a month): each is highest from month 1 on.
        DoorPost y = new DoorPost();
        law(y, "k*20");
        for (int k = 0; k < 6; k++) {
            y.child(0, 1000 - 10 * k, PLAIN);
        }
        for (int one = 0; one < 6; one++) {
            for (int other = 0; other < 6; other++) {
                due(one == other ? BAD : one > other ? 1 : NOT, y.overtakes(10 * one + other), one + " and " + other);
            }
        }
        law(y, "k=4?3;0");
        // 960 + 3 t beside 1000, 990, 980, 970, 950.
        int[] months = {14, 11, 7, 4};
        for (int other = 0; other < 4; other++) {
            due(months[other], y.overtakes(40 + other), "4 and " + other);
            due(NOT, y.overtakes(10 * other + 4), other + " and 4");
        }
        due(NOT, y.overtakes(45), "4 and 5: higher from birth on");
        due(BAD, y.overtakes(56), "child 6");
        due(BAD, y.overtakes(60), "child 6");
    }

    // ---- promise 25

    private static void enoughMonths() {
        says("with a WANT told in thought (from MONTH to MONTH, how much): END less END without");
        DoorPost x = born("20-w", 10, 400);
        due(0, x.enough(0, 0, 9), "the first month, ahead of birth");
        due(0, x.enough(0, 10, 9), "up to the month of birth");
        due(-9, x.enough(0, 11, 9), "one month behind birth");
        due(-9, x.enough(0, 11011, 9), "that month alone");
        due(-9, x.enough(0, 250250, 9), "the month of the end");
        due(-9, x.enough(0, 250599, 9), "from the month of the end on");
        due(0, x.enough(0, 251251, 9), "the month behind the end");
        due(-240, x.enough(0, 599, 1), "all months");
        due(-9, x.enough(1, 599599, 9), "the last month, in which the end is");
        due(-199, x.enough(1, 599, 1), "all months, the end is in the last");
    }

    private static void enoughInThought() {
        says("(told in thought)");
        DoorPost x = born("20-w", 0);
        due(-9, x.enough(0, 5005, 9), "a want");
        due(0, x.count(1), "no want is told");
        due(0, x.wants(5), "no want is told");
        due(1000 + 20 * 240, x.tall(0, 0), "the end is as it was");
        due(1100, x.height(0, 5), "the height is as it was");
        due(-9, x.enough(0, 5005, 9), "a want once more");
        x.want(5005, 4);
        due(-5, x.enough(0, 5005, 9), "what it is more than the greatest");
        due(0, x.enough(0, 5005, 4), "as much as the greatest");
        due(0, x.enough(0, 5005, 1), "less than the greatest");
        due(-1, x.enough(0, 5006, 1), "the month behind the want");
    }

    private static void enoughBesideFullWants() {
        says("WANTS 0 .. 9 (a WANT told in thought is none of them)");
        DoorPost x = born("20-w", 0);
        for (int i = 0; i < 10; i++) {
            x.want(5005, 1);
        }
        due(-8, x.enough(0, 5005, 9), "ten wants are told");
        due(10, x.count(1), "ten");
    }

    private static void enoughArguments() {
        says("ENOUGH: span as of want(). VOID: BAD.");
        DoorPost x = new DoorPost();
        due(VOID, x.enough(0, 5005, 1), "no children");
        x.child(0, 1000, PLAIN);
        for (int span : new int[] {-1, -1000, 600, 999, 1000, 10009, 599598, 599600, 600000, 600600, 1000000, LEAST, GREATEST}) {
            due(VOID, x.enough(0, span, 1), "span " + span);
        }
        for (int much : new int[] {0, 10, -1, LEAST, GREATEST}) {
            due(VOID, x.enough(0, 5005, much), "much " + much);
        }
        for (int child : new int[] {-1, 1, 5, 6, LEAST, GREATEST}) {
            due(VOID, x.enough(child, 5005, 1), "child " + child);
        }
        law(x, "w");
        due(1, x.enough(0, 5005, 1), "much 1");
        due(9, x.enough(0, 5005, 9), "much 9");
        due(240, x.enough(0, 599, 1), "span 599");
        due(0, x.enough(0, 599599, 1), "span 599599");
        due(0, x.enough(0, 0, 1), "span 0");
    }

    // ---- promise 26

    private static void slipsHowOften() {
        says("SLIPS: n times (1 .. 50)");
        DoorPost x = born("0", 0);
        due(1, x.slips(0, 0, 7, 100), "once");
        due(1, x.slips(0, 0, 7, 199), "once, up to 99");
        due(50, x.slips(0, 0, 7, 5000), "fifty times");
        due(50, x.slips(0, 0, 7, 5099), "fifty times, up to 99");
        for (int nv : new int[] {0, 1, 99, 5100, 5199, 10000, -1, -100, -199, LEAST, GREATEST}) {
            due(BAD, x.slips(0, 0, 7, nv), "nv " + nv);
        }
    }

    private static void slipsUpToV() {
        says("slips up to v (0 .. 99): (z >>> 8) % (2 v and 1) less v");
        for (int v = 0; v < 100; v += 9) {
            int z = 77;
            int first = 0;
            int second = 0;
            for (int k = 0; k < 50; k++) {
                z = z * 1103515245 + 12345;
                int slip = (z >>> 8) % (2 * v + 1) - v;
                first += 1000 + slip <= 1025 ? 1 : 0;
                second += 1050 + slip > 1025 ? 1 : 0;
            }
            DoorPost x = new DoorPost();
            law(x, "0");
            x.child(0, 1000, PLAIN);
            x.child(0, 1050, PLAIN);
            due(first, x.slips(0, 0, 77, 5000 + v), "the first, up to " + v);
            due(second, x.slips(1, 0, 77, 5000 + v), "the second, up to " + v);
        }
        DoorPost y = new DoorPost();
        law(y, "0");
        y.child(0, 1000, PLAIN);
        y.child(0, 1001, PLAIN);
        due(50, y.slips(1, 0, 77, 5000), "no slip at all: one part is enough");
    }

    private static void slipsSeed() {
        says("z = z * 1103515245 + 12345 (an int; SEED at first)");
        for (int seed : new int[] {0, 1, -1, LEAST, GREATEST, -12345, 1103515245}) {
            for (int n : new int[] {1, 2, 3, 25}) {
                int z = seed;
                int first = 0;
                int second = 0;
                for (int k = 0; k < n; k++) {
                    z = z * 1103515245 + 12345;
                    int slip = (z >>> 8) % 21 - 10;
                    first += slip <= 0 ? 1 : 0;
                    second += slip >= 0 ? 1 : 0;
                }
                DoorPost x = new DoorPost();
                law(x, "0");
                x.child(0, 1000, PLAIN);
                x.child(0, 1001, PLAIN);
                due(first, x.slips(0, 0, seed, 100 * n + 10), "seed " + seed + ", " + n + " times");
                due(second, x.slips(1, 0, seed, 100 * n + 10), "seed " + seed + ", " + n + " times");
            }
        }
    }

    private static void slipsNotBorn() {
        says("NOT: it is not BORN. how often WHOSE of such a MARK of that MONTH is it");
        DoorPost x = born("0", 10, 11, 599);
        due(NOT, x.slips(0, 9, 7, 100), "the month ahead of birth");
        due(NOT, x.slips(0, 0, 7, 100), "the first month");
        due(1, x.slips(0, 10, 7, 100), "the month of birth");
        due(0, x.slips(1, 11, 7, 5099), "the first of like ones is another");
        due(50, x.slips(0, 11, 7, 5099), "the first of like ones");
        due(NOT, x.slips(2, 598, 7, 100), "the month ahead of birth");
        due(0, x.slips(2, 599, 7, 100), "the last month");
        due(1, x.slips(0, 599, 7, 100), "the last month");
    }

    private static void slipsArguments() {
        says("SLIPS. BAD; NOT.");
        DoorPost x = new DoorPost();
        due(BAD, x.slips(0, 0, 7, 100), "no children");
        x.child(100, 1000, PLAIN);
        for (int child : new int[] {-1, 1, 5, 6, LEAST, GREATEST}) {
            due(BAD, x.slips(child, 10, 7, 100), "child " + child);
        }
        for (int month : new int[] {-1, 600, LEAST, GREATEST}) {
            due(BAD, x.slips(0, month, 7, 100), "month " + month);
        }
        due(BAD, x.slips(0, 9, 7, 99), "BAD is named ahead of NOT");
        due(BAD, x.slips(0, 9, 7, 5100), "BAD is named ahead of NOT");
        due(NOT, x.slips(0, 9, 7, 5099), "not born");
        due(0, x.count(2), "no mark is told by it");
    }

    // ---- promises 27 and 28

    private static DoorPost mendable() {
        DoorPost x = new DoorPost();
        x.mark(100, 61, 5);
        x.child(0, 1280, PLAIN);
        return x;
    }

    private static void undoNone() {
        says("UNDONE: how many may still be. STATE: none.");
        DoorPost x = mendable();
        due(STATE, x.undo(), "no change yet");
        x.mend(0, 0, 100);
        due(STATE, x.undo(), "telling the same number is none");
        x.mend(0, 0, -1);
        due(STATE, x.undo(), "a refused one is none");
        x.mend(0, 0, 101);
        due(1, x.count(4), "one");
        due(0, x.undo(), "the only one");
        due(100, x.of(0, 0), "as it was");
        due(STATE, x.undo(), "none any more");
        due(100, x.of(0, 0), "as it was");
        due(0, x.count(4), "none");
    }

    private static void redoNone() {
        says("DONE AGAIN: how many may still be. STATE: none.");
        DoorPost x = mendable();
        due(STATE, x.redo(), "no change yet");
        x.mend(0, 0, 101);
        due(STATE, x.redo(), "none is undone");
        x.undo();
        due(0, x.redo(), "the only one");
        due(101, x.of(0, 0), "done again");
        due(STATE, x.redo(), "none any more");
        due(101, x.of(0, 0), "as it was");
        due(1, x.count(4), "it may be undone again");
    }

    private static void undoTheLatestFirst() {
        says("CHANGES (LATE, PARENTS of CHILDREN; HEIGHT, WAY of MARKS) can be UNDONE, the latest first, and DONE AGAIN");
        DoorPost x = mendable();
        x.mend(0, 0, 0);
        x.mend(0, 1, 4);
        x.mend(0, 2, -24);
        x.mend(0, 3, 6000);
        int[][] told = {{0, 0, 0}, {0, 3, 4}, {0, 13, -24}, {0, 14, 6000}};
        int[] before = {100, 1, 0, 4300};
        for (int k = 3; k >= 0; k--) {
            due(told[k][2], x.of(0, told[k][1]), "what was mended " + k);
            due(k, x.undo(), "undo " + k);
            due(k, x.count(4), "changes");
            due(before[k], x.of(0, told[k][1]), "what it was " + k);
        }
        due(1280 + 40 * 11 + 16, x.height(0, 12), "heights by late 0 again");
        for (int k = 0; k < 4; k++) {
            due(before[k], x.of(0, told[k][1]), "what it was " + k);
            due(3 - k, x.redo(), "redo " + k);
            due(k + 1, x.count(4), "changes");
            due(told[k][2], x.of(0, told[k][1]), "what was mended " + k);
        }
        due(1280 + 16 * 12, x.height(0, 12), "heights by late -24 again");
    }

    private static void anotherCameBehind() {
        says("DONE AGAIN (as long as no other came behind)");
        DoorPost x = mendable();
        x.mend(0, 0, 101);
        x.mend(0, 0, 102);
        x.mend(0, 0, 103);
        x.undo();
        x.undo();
        x.mend(0, 1, 4);
        due(STATE, x.redo(), "another came behind");
        due(101, x.of(0, 0), "the height");
        due(2, x.count(4), "changes");
        due(1, x.undo(), "the other");
        due(1, x.of(0, 3), "the way");
        due(0, x.undo(), "the first");
        due(100, x.of(0, 0), "the height");
        due(1, x.redo(), "the first again");
        due(0, x.redo(), "the other again");
        due(4, x.of(0, 3), "the way");
        due(STATE, x.redo(), "none");
    }

    private static void noOtherCameBehind() {
        says("telling the same number is none (no other came behind)");
        DoorPost x = mendable();
        x.mend(0, 0, 101);
        x.undo();
        due(100, x.mend(0, 0, 100), "the same number");
        due(VOID, x.mend(0, 0, 10000), "a refused one");
        x.mark(5, 60, 600);
        x.child(0, 1280, PLAIN);
        x.want(0, 1);
        x.paint(5);
        law(x, "5");
        due(0, x.redo(), "it can be done again");
        due(101, x.of(0, 0), "the height");
    }

    private static void fortyAreKept() {
        says("40 at most are kept");
        for (int n : new int[] {39, 40, 41, 45, 80}) {
            DoorPost x = mendable();
            for (int i = 1; i <= n; i++) {
                due(99 + i, x.mend(0, 0, 100 + i), "mend " + i);
            }
            int kept = Math.min(40, n);
            due(kept, x.count(4), "of " + n);
            for (int k = kept - 1; k >= 0; k--) {
                due(k, x.undo(), "undo of " + n);
            }
            due(100 + n - kept, x.of(0, 0), "the oldest of " + n + " are not undone");
            due(STATE, x.undo(), "no more of " + n);
            due(100 + n - kept, x.of(0, 0), "the oldest of " + n + " are not undone");
        }
    }

    private static void fortyOfSeveral() {
        says("40 at most are kept (of several numbers)");
        DoorPost x = mendable();
        x.mark(200, 61, 5);
        for (int i = 1; i <= 15; i++) {
            x.mend(0, 0, 100 + i);
            x.mend(1, 0, 200 + i);
            x.mend(0, 2, i);
        }
        due(40, x.count(4), "of forty-five");
        for (int k = 39; k >= 0; k--) {
            due(k, x.undo(), "undo");
        }
        // The five oldest stay: the first three, and the height of each mark once more.
        due(102, x.of(0, 0), "the first mark's height");
        due(202, x.of(1, 0), "the second mark's height");
        due(1, x.of(0, 13), "late");
        for (int k = 39; k >= 0; k--) {
            due(k, x.redo(), "redo");
        }
        due(115, x.of(0, 0), "the first mark's height");
        due(215, x.of(1, 0), "the second mark's height");
        due(15, x.of(0, 13), "late");
    }

    private static void fortyAndDoneAgain() {
        says("40 at most are kept (and DONE AGAIN)");
        DoorPost x = mendable();
        for (int i = 1; i <= 41; i++) {
            x.mend(0, 0, 100 + i);
        }
        for (int k = 39; k >= 0; k--) {
            due(k, x.undo(), "undo");
        }
        for (int k = 39; k >= 0; k--) {
            due(k, x.redo(), "redo");
            due(141 - k, x.of(0, 0), "the height");
        }
        due(STATE, x.redo(), "no more");
        due(40, x.count(4), "changes");
        due(39, x.undo(), "one back");
        due(140, x.mend(0, 0, 500), "another");
        due(40, x.count(4), "forty: none was dropped");
        for (int k = 39; k >= 0; k--) {
            due(k, x.undo(), "undo");
        }
        due(101, x.of(0, 0), "none was dropped");
        for (int k = 0; k < 40; k++) {
            x.redo();
        }
        due(500, x.mend(0, 0, 501), "a forty-first");
        for (int k = 0; k < 40; k++) {
            x.undo();
        }
        due(102, x.of(0, 0), "the oldest was dropped");
    }
}
