import java.util.ArrayList;
import java.util.List;
import java.util.function.ToLongFunction;

/**
 * "What is answered so changes nothing": each refused call is made on one of two like objects;
 * then both are asked for all that they hold, and must answer alike.
 */
public final class RefusalTest {
    private static final int BAD = -1, NOT = -2, FULL = -3, STATE = -5, VOID = -2000000000;
    private static final int PLAIN = 244300;
    private static int wrong = 0;
    private static int asked = 0;

    private static final class Refused {
        final String name;
        final long answer;
        final ToLongFunction<DoorPost> call;

        Refused(String name, long answer, ToLongFunction<DoorPost> call) {
            this.name = name;
            this.answer = answer;
            this.call = call;
        }
    }

    private static final List<Refused> calls = new ArrayList<>();

    private static void refused(String name, long answer, ToLongFunction<DoorPost> call) {
        calls.add(new Refused(name, answer, call));
    }

    public static void main(String[] args) {
        refusedOfGrowth();
        refusedOfMarks();
        refusedOfTall();
        refusedOfShelves();
        for (Refused r : calls) {
            changesNothing(r, some(), some(), false);
        }
        calls.clear();
        refusedWhenFull();
        for (Refused r : calls) {
            changesNothing(r, full(), full(), true);
        }
        calls.clear();
        refusedWhenNew();
        for (Refused r : calls) {
            changesNothing(r, new DoorPost(), new DoorPost(), false);
        }
        System.out.println(wrong == 0 ? asked + " answers are as due" : wrong + " answers are not as due");
        if (wrong != 0) {
            System.exit(1);
        }
    }

    private static void changesNothing(Refused r, DoorPost asItWas, DoorPost asked, boolean isFull) {
        due(r.answer, r.call.applyAsLong(asked), r.name);
        List<Long> before = isFull ? readFull(asItWas) : read(asItWas);
        List<Long> after = isFull ? readFull(asked) : read(asked);
        for (int k = 0; k < before.size(); k++) {
            due(before.get(k), after.get(k), "behind the refused " + r.name + ": reading " + k);
        }
    }

    private static void due(long want, long got, String call) {
        asked++;
        if (got != want) {
            wrong++;
            if (wrong < 40) {
                System.out.println(call + " answered " + got + ", due is " + want);
            }
        }
    }

    private static void feed(DoorPost x, String text) {
        for (int i = 0; i < text.length(); i++) {
            x.feed(text.charAt(i));
        }
    }

    // ---- what is asked

    private static DoorPost some() {
        DoorPost x = new DoorPost();
        feed(x, "a<60?20-w+s;p-60");
        x.law();
        x.child(100, 1280, PLAIN);
        x.child(501, 1000, 264400);
        x.child(1000, 1500, 204500);
        x.want(20040, 3);
        x.want(30099, 5);
        x.mark(1300, 0, 20);
        x.mark(1290, 0, 25);
        x.mark(1500, 61, 60);
        x.mark(1600, 60, 60);
        x.paint(22);
        x.mark(2000, 60, 600);
        x.mark(1400, 12, 55);
        x.mend(0, 0, 1310);
        x.mend(1, 1, 3);
        x.mend(1, 2, 5);
        x.undo();
        for (int kind = 0; kind < 8; kind++) {
            x.body(kind);
        }
        x.keep(0, 3);
        x.row(1, 1, 8);
        x.put(1, 0, 1700);
        x.put(1, 2, 77);
        x.put(1, 4, 20000);
        x.row(2, 2, 3);
        x.put(2, 1, 9);
        x.row(3, 3, 3);
        x.put(3, 2, 8);
        x.row(5, 2, 2);
        x.put(5, 1, 6);
        feed(x, "7+");
        x.act(7, 3, 10);
        return x;
    }

    /** All that it holds; the last readings change it, but alike. */
    private static List<Long> read(DoorPost x) {
        List<Long> all = new ArrayList<>();
        readCounts(x, all);
        for (int i = 0; i < 9; i++) {
            all.add((long) x.trace(i));
        }
        readMarksAndChildren(x, all);
        for (int mark = 0; mark < 7; mark++) {
            all.add((long) x.of(mark, 1));
            all.add((long) x.of(mark, 2));
            all.add((long) x.of(mark, 4));
            all.add((long) x.whose(mark, 0));
        }
        for (int month : new int[] {0, 19, 20, 30, 40, 41, 99, 100, 599}) {
            all.add((long) x.wants(month));
        }
        for (int shelf = 0; shelf < 6; shelf++) {
            all.add((long) x.taken(shelf, 0));
            for (int i = 0; i < 9; i += shelf == 1 ? 1 : 2) {
                all.add(x.element(shelf, i));
                all.add((long) x.put(shelf, i, i));
            }
        }
        for (int k = 0; k < 4; k++) {
            all.add((long) x.redo());
        }
        readMarksAndChildren(x, all);
        for (int k = 0; k < 5; k++) {
            all.add((long) x.undo());
        }
        readMarksAndChildren(x, all);
        all.add((long) x.mark(1, 60, 600));
        all.add((long) x.marks(1, 0, 1));
        all.add((long) x.child(0, 500, PLAIN));
        all.add((long) x.want(0, 1));
        all.add((long) x.body(7));
        all.add((long) x.act(1, 0, 1));
        all.add((long) x.feed('1'));
        all.add((long) x.law());
        readMarksAndChildren(x, all);
        readCounts(x, all);
        return all;
    }

    private static void readCounts(DoorPost x, List<Long> all) {
        for (int what = 0; what < 7; what++) {
            all.add((long) x.count(what));
        }
    }

    private static void readMarksAndChildren(DoorPost x, List<Long> all) {
        for (int mark = 0; mark < 7; mark++) {
            all.add((long) x.of(mark, 0));
            all.add((long) x.of(mark, 3));
        }
        for (int child = 0; child < 4; child++) {
            all.add((long) x.of(child, 13));
            all.add((long) x.of(child, 14));
            all.add((long) x.height(child, 35));
            all.add((long) x.height(child, 599));
        }
    }

    private static DoorPost full() {
        DoorPost x = new DoorPost();
        for (int i = 0; i < 6; i++) {
            x.child(10 * i, 1000 + i, PLAIN);
        }
        for (int i = 0; i < 10; i++) {
            x.want(1001 * i, 1 + i % 9);
        }
        for (int i = 0; i < 30; i++) {
            x.mark(100 + i, 60, i);
        }
        for (int i = 0; i < 41; i++) {
            x.mend(0, 0, i);
        }
        for (int i = 0; i < 50; i++) {
            x.body(i % 8);
        }
        feed(x, "w" + "+1".repeat(59) + "1");
        x.row(0, 1, 4);
        return x;
    }

    private static List<Long> readFull(DoorPost x) {
        List<Long> all = new ArrayList<>();
        readCounts(x, all);
        for (int mark = 0; mark < 31; mark++) {
            all.add((long) x.of(mark, 0));
        }
        for (int child = 0; child < 7; child++) {
            all.add((long) x.of(child, 12));
        }
        for (int month = 0; month < 12; month++) {
            all.add((long) x.wants(month));
        }
        all.add((long) x.redo());
        for (int k = 0; k < 41; k++) {
            all.add((long) x.undo());
        }
        all.add((long) x.of(0, 0));
        all.add((long) x.law());
        for (int child = 0; child < 6; child++) {
            all.add((long) x.height(child, 10));
        }
        readCounts(x, all);
        return all;
    }

    // ---- what is refused

    private static void refusedOfGrowth() {
        refused("child, bs -1", BAD, x -> x.child(-1, 1280, PLAIN));
        refused("child, born 600", BAD, x -> x.child(6000, 1280, PLAIN));
        refused("child, sex 2", BAD, x -> x.child(2, 1280, PLAIN));
        refused("child, length 499", BAD, x -> x.child(0, 499, PLAIN));
        refused("child, length 2001", BAD, x -> x.child(0, 2001, PLAIN));
        refused("child, lp -1", BAD, x -> x.child(0, 1280, -1));
        refused("child, late 25", BAD, x -> x.child(0, 1280, 494300));
        refused("child, parents 2999", BAD, x -> x.child(0, 1280, 242999));
        refused("child, parents 6001", BAD, x -> x.child(0, 1280, 246001));
        refused("want, span -1", BAD, x -> x.want(-1, 9));
        refused("want, to 600", BAD, x -> x.want(600, 9));
        refused("want, from 600", BAD, x -> x.want(600600, 9));
        refused("want, to ahead of from", BAD, x -> x.want(41040, 9));
        refused("want, much 0", BAD, x -> x.want(599, 0));
        refused("want, much 10", BAD, x -> x.want(599, 10));
        refused("feed, -1", BAD, x -> x.feed(-1));
        refused("feed, 256", BAD, x -> x.feed(256));
        refused("height, child -1", BAD, x -> x.height(-1, 0));
        refused("height, month 600", BAD, x -> x.height(0, 600));
        refused("wants, month -1", BAD, x -> x.wants(-1));
        refused("wants, month 600", BAD, x -> x.wants(600));
    }

    private static void refusedOfMarks() {
        refused("mark, height -1", BAD, x -> x.mark(-1, 60, 5));
        refused("mark, height 10000", BAD, x -> x.mark(10000, 60, 5));
        refused("mark, nw -1", BAD, x -> x.mark(5, -1, 5));
        refused("mark, name 7", BAD, x -> x.mark(5, 70, 5));
        refused("mark, way 5", BAD, x -> x.mark(5, 65, 5));
        refused("mark, month -1", BAD, x -> x.mark(5, 60, -1));
        refused("mark, month 601", BAD, x -> x.mark(5, 60, 601));
        refused("marks, shelf 6", BAD, x -> x.marks(6, 0, 1));
        refused("marks, shelf -1", BAD, x -> x.marks(-1, 0, 1));
        refused("marks, n 0", BAD, x -> x.marks(1, 0, 0));
        refused("marks, n 16", BAD, x -> x.marks(1, 0, 16));
        refused("marks of ints", -12, x -> x.marks(2, 0, 1));
        refused("marks of a mark", -12, x -> x.marks(0, 0, 1));
        refused("marks, a missing row", 0, x -> x.marks(4, 0, 1));
        refused("marks, a place behind", 0, x -> x.marks(1, 8, 1));
        refused("marks, within a four", 0, x -> x.marks(1, 5, 1));
        refused("marks, one that is not so", 0, x -> x.marks(1, 4, 1));
        refused("marks, place -1", 0, x -> x.marks(1, -1, 1));
        refused("paint, -1", BAD, x -> x.paint(-1));
        refused("paint, 600", BAD, x -> x.paint(600));
        refused("of, mark 6", VOID, x -> x.of(6, 0));
        refused("of, child 3", VOID, x -> x.of(3, 10));
        refused("of, what 5", VOID, x -> x.of(0, 5));
        refused("mend, height -1", VOID, x -> x.mend(0, 0, -1));
        refused("mend, height 10000", VOID, x -> x.mend(0, 0, 10000));
        refused("mend, mark 6", VOID, x -> x.mend(6, 0, 5));
        refused("mend, way -1", VOID, x -> x.mend(0, 1, -1));
        refused("mend, way 5", VOID, x -> x.mend(0, 1, 5));
        refused("mend, late -25", VOID, x -> x.mend(0, 2, -25));
        refused("mend, late 25", VOID, x -> x.mend(0, 2, 25));
        refused("mend, child 3", VOID, x -> x.mend(3, 2, 5));
        refused("mend, parents 2999", VOID, x -> x.mend(0, 3, 2999));
        refused("mend, parents 6001", VOID, x -> x.mend(0, 3, 6001));
        refused("mend, what 4", VOID, x -> x.mend(0, 4, 5));
        refused("mend, what -1", VOID, x -> x.mend(0, -1, 5));
        refused("mend, the same height", 1310, x -> x.mend(0, 0, 1310));
        refused("mend, the same way", 3, x -> x.mend(1, 1, 3));
        refused("mend, the same late", 2, x -> x.mend(1, 2, 2));
        refused("mend, the same parents", 4300, x -> x.mend(0, 3, 4300));
        refused("off, way 5", BAD, x -> x.off(0, 50, 5));
        refused("off, not born", NOT, x -> x.off(2, 50, 0));
        refused("whose, what 3", BAD, x -> x.whose(0, 3));
        refused("whose, mark 6", BAD, x -> x.whose(6, 0));
        refused("odds, mark 6", BAD, x -> x.odds(60));
        refused("odds, no month", NOT, x -> x.odds(40));
        refused("how, what 2", BAD, x -> x.how(0, 2));
        refused("together, month 600", BAD, x -> x.together(600, -1));
        refused("together, no such i", BAD, x -> x.together(60, 2));
        refused("turned, what 2", BAD, x -> x.turned(0, 2));
        refused("led, child 3", BAD, x -> x.led(3));
    }

    private static void refusedOfTall() {
        refused("tall, what 5", VOID, x -> x.tall(0, 5));
        refused("year, what 4", BAD, x -> x.year(0, 4));
        refused("line, month 600", VOID, x -> x.line(0, 600));
        refused("line, not born", -1000, x -> x.line(2, 99));
        refused("falls, child 3", BAD, x -> x.falls(3));
        refused("overtakes, one and the same", BAD, x -> x.overtakes(11));
        refused("enough, much 10", VOID, x -> x.enough(0, 599, 10));
        refused("enough, to ahead of from", VOID, x -> x.enough(0, 41040, 9));
        refused("enough, ahead of birth", 0, x -> x.enough(0, 10, 9));
        refused("slips, n 0", BAD, x -> x.slips(0, 20, 7, 99));
        refused("slips, n 51", BAD, x -> x.slips(0, 20, 7, 5100));
        refused("slips, not born", NOT, x -> x.slips(2, 99, 7, 5099));
    }

    private static void refusedOfShelves() {
        refused("body, kind -1", BAD, x -> x.body(-1));
        refused("body, kind 8", BAD, x -> x.body(8));
        refused("trace, 8", BAD, x -> x.trace(8));
        refused("trace, -1", BAD, x -> x.trace(-1));
        refused("keep, body 8", BAD, x -> x.keep(0, 8));
        refused("keep, body -2", BAD, x -> x.keep(0, -2));
        refused("keep, shelf 6", BAD, x -> x.keep(6, -1));
        refused("row, sort 5", BAD, x -> x.row(2, 5, 1));
        refused("row, sort -1", BAD, x -> x.row(2, -1, 1));
        refused("row, n 61", BAD, x -> x.row(2, 2, 61));
        refused("row, n -1", -14, x -> x.row(2, 2, -1));
        refused("row, n -1, a mark", -14, x -> x.row(0, 2, -1));
        refused("row, shelf -1", BAD, x -> x.row(-1, 2, 1));
        refused("put, shelf 6", BAD, x -> x.put(6, 0, 1));
        refused("put, nothing", -11, x -> x.put(4, 0, 1));
        refused("put, a mark", -12, x -> x.put(0, 0, 1));
        refused("put, place -1", -13, x -> x.put(2, -1, 1));
        refused("put, place 3", -13, x -> x.put(2, 3, 1));
        refused("element, place 3", Long.MIN_VALUE, x -> x.element(2, 3));
        refused("shift, shelf 6", BAD, x -> x.shift(2, 0, 6, 0, 1));
        refused("shift, nothing", -11, x -> x.shift(2, 0, 4, 0, 1));
        refused("shift, a mark", -12, x -> x.shift(2, 0, 0, 0, 1));
        refused("shift, unlike sorts", -12, x -> x.shift(2, 0, 3, 0, 1));
        refused("shift, behind the end", -13, x -> x.shift(2, 1, 5, 0, 3));
        refused("shift, behind the other's end", -13, x -> x.shift(2, 0, 5, 0, 3));
        refused("shift, n -1", -13, x -> x.shift(2, 0, 5, 0, -1));
        refused("shift, within one", -13, x -> x.shift(2, 0, 2, 1, 3));
        refused("taken, kind 8", BAD, x -> x.taken(0, 8));
        refused("taken, unlike kind", -12, x -> x.taken(0, 2));
        refused("taken, a row", -12, x -> x.taken(2, 0));
        refused("count, 7", BAD, x -> x.count(7));
    }

    private static void refusedWhenFull() {
        refused("child, full", FULL, x -> x.child(0, 1280, PLAIN));
        refused("want, full", FULL, x -> x.want(599, 9));
        refused("feed, full", FULL, x -> x.feed('+'));
        refused("mark, full", FULL, x -> x.mark(5, 60, 5));
        refused("marks, full", 0, x -> x.marks(0, 0, 1));
        refused("body, full", FULL, x -> x.body(0));
        refused("redo, none", STATE, x -> x.redo());
        refused("mend, the same", 40, x -> x.mend(0, 0, 40));
    }

    private static void refusedWhenNew() {
        refused("undo, none", STATE, x -> x.undo());
        refused("redo, none", STATE, x -> x.redo());
        refused("law, an empty tape", -100, x -> x.law());
        refused("act, no such body", 0, x -> x.act(0, 0, 1));
        refused("trace, none", BAD, x -> x.trace(0));
        refused("keep, nothing for nothing", 1, x -> x.keep(0, -1));
        refused("marks, a missing row", 0, x -> x.marks(0, 0, 1));
        refused("together, no marks", 0, x -> x.together(0, -1));
    }
}
