import java.lang.reflect.Method;
import java.lang.reflect.Modifier;
import java.util.ArrayList;
import java.util.Comparator;
import java.util.List;
import java.util.Random;

/**
 * Long runs of calls, drawn by fixed seeds, each answered by DoorPost and by a second program that
 * is written from the document in another way: nothing is kept but what was told, texts are split
 * from the outside in, acts are real classes, rows are real arrays.
 */
public final class OracleTest {
    private static int wrong = 0;
    private static int calls = 0;

    public static void main(String[] args) throws Exception {
        for (int seed = 1; seed <= 1200; seed++) {
            new Run(seed).play();
        }
        List<Method> face = face();
        for (int seed = 1; seed <= 300; seed++) {
            new Run(90000 + seed).playEdges(face);
        }
        for (int seed = 1; seed <= 3000; seed++) {
            playLaws(new Random(70000 + seed), seed);
        }
        System.out.println(wrong == 0 ? calls + " calls answered as the oracle does" : wrong + " answers differ");
        if (wrong != 0) {
            System.exit(1);
        }
    }

    /** The calls of the document, in an order that is the same on each machine. */
    static List<Method> face() {
        List<Method> all = new ArrayList<>();
        for (Method method : DoorPost.class.getDeclaredMethods()) {
            if (Modifier.isPublic(method.getModifiers())) {
                all.add(method);
            }
        }
        all.sort(Comparator.comparing(Method::getName));
        return all;
    }

    static void same(String where, long got, long want) {
        calls++;
        if (got != want) {
            wrong++;
            if (wrong < 40) {
                System.out.println(where + " answered " + got + ", the oracle " + want);
            }
        }
    }

    // ---- the oracle

    interface Node {
        int at(int[] names);
    }

    /** Texts: the FAULT by an automaton with a stack, the meaning by splitting. */
    static final class Text {
        static int fault(String text) {
            List<int[]> contexts = new ArrayList<>(); // {compared, unaries}
            contexts.add(new int[2]);
            boolean asked = false;
            boolean wantsOperand = true;
            int open = 0;
            int digits = 0;
            for (int i = 0; i < text.length(); i++) {
                char c = text.charAt(i);
                int[] top = contexts.get(contexts.size() - 1);
                boolean outer = contexts.size() == 1;
                boolean digit = c >= '0' && c <= '9';
                if (wantsOperand) {
                    if (c == '(' || c == '!' || c == '-') {
                        if (open == 6) {
                            return i;
                        }
                        open++;
                        if (c == '(') {
                            contexts.add(new int[2]);
                        } else {
                            top[1]++;
                        }
                    } else if (digit || "aswhpmk".indexOf(c) >= 0) {
                        digits = digit ? 1 : 0;
                        wantsOperand = false;
                        open -= top[1];
                        top[1] = 0;
                    } else {
                        return i;
                    }
                } else if (digit) {
                    if (digits == 0 || digits == 4) {
                        return i;
                    }
                    digits++;
                } else {
                    digits = 0;
                    if (c == ')') {
                        if (outer) {
                            return i;
                        }
                        contexts.remove(contexts.size() - 1);
                        open--;
                        int[] parent = contexts.get(contexts.size() - 1);
                        open -= parent[1];
                        parent[1] = 0;
                        continue;
                    }
                    if ("|&?;".indexOf(c) >= 0) {
                        if ((c == '?' || c == ';') && !outer || c == '?' && asked) {
                            return i;
                        }
                        asked = c == '?' || c != ';' && asked;
                        top[0] = 0;
                    } else if ("<=>".indexOf(c) >= 0) {
                        if (top[0] == 1) {
                            return i;
                        }
                        top[0] = 1;
                    } else if ("+-*/%".indexOf(c) < 0) {
                        return i;
                    }
                    wantsOperand = true;
                }
            }
            return wantsOperand || contexts.size() > 1 ? text.length() : -1;
        }

        static Node[][] lines(String text) {
            String[] lines = text.split(";");
            Node[][] all = new Node[lines.length][];
            for (int i = 0; i < lines.length; i++) {
                String[] parts = lines[i].split("\\?");
                all[i] = new Node[parts.length];
                for (int k = 0; k < parts.length; k++) {
                    all[i][k] = node(parts[k]);
                }
            }
            return all;
        }

        static Node node(String e) {
            for (String level : new String[] {"|", "&", "<=>", "+-", "*/%"}) {
                int deep = 0;
                for (int i = e.length() - 1; i > 0; i--) {
                    char c = e.charAt(i);
                    deep += c == ')' ? 1 : c == '(' ? -1 : 0;
                    char ahead = e.charAt(i - 1);
                    boolean binary = Character.isLetterOrDigit(ahead) || ahead == ')';
                    if (deep == 0 && binary && level.indexOf(c) >= 0) {
                        Node left = node(e.substring(0, i));
                        Node right = node(e.substring(i + 1));
                        return n -> joined(c, left.at(n), right.at(n));
                    }
                }
            }
            char first = e.charAt(0);
            if (first == '(') {
                return node(e.substring(1, e.length() - 1));
            }
            if (first == '!' || first == '-') {
                Node inner = node(e.substring(1));
                return first == '!' ? n -> inner.at(n) == 0 ? 1 : 0 : n -> -inner.at(n);
            }
            if (Character.isDigit(first)) {
                int number = Integer.parseInt(e);
                return n -> number;
            }
            int name = "aswhpmk".indexOf(first);
            return n -> n[name];
        }

        static int joined(char c, int x, int y) {
            switch (c) {
                case '|': return x != 0 || y != 0 ? 1 : 0;
                case '&': return x != 0 && y != 0 ? 1 : 0;
                case '<': return x < y ? 1 : 0;
                case '=': return x == y ? 1 : 0;
                case '>': return x > y ? 1 : 0;
                case '+': return (int) ((long) x + y);
                case '-': return (int) ((long) x - y);
                case '*': return (int) ((long) x * y);
                case '/': return y == 0 ? 0 : (int) ((long) x / y);
                default: return y == 0 ? 0 : (int) ((long) x % y);
            }
        }
    }

    static final class Child {
        int born, sex, length, late, parents;
    }

    static final class Mark {
        int height, name, month, way;
        boolean covered;
    }

    interface Grows {
        int number();

        List<Integer> ran();

        default int grows(int x) {
            ran().add(1);
            return x + number();
        }
    }

    interface Tells {
        int stands(int x);

        int marks(int x);

        List<Integer> ran();

        default int tells(int x) {
            ran().add(2);
            return stands(x) - marks(1);
        }
    }

    static class Body implements Grows, Tells {
        int n;
        List<Integer> trace;

        public int number() {
            return n;
        }

        public List<Integer> ran() {
            return trace;
        }

        public int stands(int x) {
            trace.add(10);
            return grows(x) * 2;
        }

        public int marks(int x) {
            trace.add(11);
            return x ^ n;
        }
    }

    static class Named extends Body {
        public int grows(int x) {
            trace.add(20);
            return super.grows(x) + 3;
        }
    }

    static class Nameless extends Body {
        public int stands(int x) {
            trace.add(30);
            return -super.stands(x);
        }
    }

    static class Tiptoed extends Named {
        public int marks(int x) {
            trace.add(40);
            return super.marks(x) * 3;
        }

        public int stands(int x) {
            trace.add(41);
            return super.stands(x + 1);
        }
    }

    static class Evening extends Body {
        public int marks(int x) {
            trace.add(50);
            return super.marks(x) - grows(2);
        }
    }

    static class Rounded extends Evening {
        public int tells(int x) {
            trace.add(60);
            return super.tells(x) ^ 5;
        }
    }

    static class Shod extends Tiptoed {
        public int grows(int x) {
            trace.add(70);
            return super.grows(x) * 2;
        }
    }

    static class Covered extends Nameless {
        public int stands(int x) {
            trace.add(80);
            return super.stands(x) + marks(2);
        }

        public int tells(int x) {
            trace.add(81);
            return super.tells(x) - 1;
        }
    }

    static final Class<?>[] KINDS = {Body.class, Named.class, Nameless.class, Tiptoed.class, Evening.class,
        Rounded.class, Shod.class, Covered.class};

    /** What the document says, without a thought of speed. */
    static final class Oracle {
        static final int BAD = -1, NOT = -2, FULL = -3, STATE = -5, VOID = -2000000000;
        final List<Child> children = new ArrayList<>();
        final List<int[]> wants = new ArrayList<>();
        final StringBuilder tape = new StringBuilder();
        Node[][] law = null;
        final List<Mark> marks = new ArrayList<>();
        final List<Integer> paints = new ArrayList<>();
        final List<int[]> changes = new ArrayList<>();
        int done = 0;
        final List<Body> bodies = new ArrayList<>();
        final List<Integer> trace = new ArrayList<>();
        final Object[] shelves = new Object[6];
        int[][] table = null; // HEIGHTS, dropped at each telling

        int growth(int[] names) {
            int gives = 0;
            if (law == null) {
                int a = names[0];
                gives = a < 12 ? 40 : a < 132 ? 16 : a < 168 ? 20 : a < 204 ? 4 : 0;
            } else {
                for (Node[] line : law) {
                    if (line.length == 1 || line[0].at(names) != 0) {
                        gives = line[line.length - 1].at(names);
                        break;
                    }
                }
            }
            return gives < 0 ? 0 : gives > 99 ? 99 : gives;
        }

        int heightOf(Child c, int k, int month, List<int[]> withWants) {
            if (month < c.born) {
                return 0;
            }
            int h = c.length;
            for (int t = c.born + 1; t <= month; t++) {
                int[] names = {t - c.born - c.late, c.sex, wantIn(t, withWants), h / 64, c.parents / 64, t % 12, k};
                h = Math.min(8000, h + growth(names));
            }
            return h;
        }

        int wantIn(int month, List<int[]> among) {
            int most = 0;
            for (int[] w : among) {
                if (w[0] <= month && month <= w[1]) {
                    most = Math.max(most, w[2]);
                }
            }
            return most;
        }

        int h(int child, int month) {
            if (table == null) {
                table = new int[6][];
            }
            if (table[child] == null) {
                table[child] = new int[600];
                Child c = children.get(child);
                int h = 0;
                for (int t = 0; t < 600; t++) {
                    if (t == c.born) {
                        h = c.length;
                    } else if (t > c.born) {
                        int[] names = {t - c.born - c.late, c.sex, wantIn(t, wants), h / 64, c.parents / 64, t % 12, child};
                        h = Math.min(8000, h + growth(names));
                    }
                    table[child][t] = h;
                }
            }
            return table[child][month];
        }

        boolean born(int child, int month) {
            return children.get(child).born <= month;
        }

        boolean isChild(int c) {
            return c >= 0 && c < children.size();
        }

        boolean isMark(int m) {
            return m >= 0 && m < marks.size();
        }

        static boolean isMonth(int m) {
            return m >= 0 && m <= 599;
        }

        int child(int bs, int length, int lp) {
            if (bs < 0 || bs % 10 > 1 || bs / 10 > 599 || length < 500 || length > 2000 || lp < 0
                    || lp / 10000 > 48 || lp % 10000 < 3000 || lp % 10000 > 6000) {
                return BAD;
            }
            if (children.size() == 6) {
                return FULL;
            }
            Child c = new Child();
            c.born = bs / 10;
            c.sex = bs % 10;
            c.length = length;
            c.late = lp / 10000 - 24;
            c.parents = lp % 10000;
            children.add(c);
            table = null;
            return children.size() - 1;
        }

        static boolean badSpan(int span) {
            return span < 0 || span / 1000 > 599 || span % 1000 > 599 || span / 1000 > span % 1000;
        }

        int want(int span, int much) {
            if (badSpan(span) || much < 1 || much > 9) {
                return BAD;
            }
            if (wants.size() == 10) {
                return FULL;
            }
            wants.add(new int[] {span / 1000, span % 1000, much});
            table = null;
            return wants.size() - 1;
        }

        int feed(int letter) {
            if (letter < 0 || letter > 255) {
                return BAD;
            }
            if (tape.length() == 120) {
                return FULL;
            }
            tape.append((char) letter);
            return tape.length();
        }

        int law() {
            String text = tape.toString();
            tape.setLength(0);
            int fault = Text.fault(text);
            if (fault >= 0) {
                return -100 - fault;
            }
            law = Text.lines(text);
            table = null;
            return 1;
        }

        int height(int child, int month) {
            return isChild(child) && isMonth(month) ? h(child, month) : BAD;
        }

        int wants(int month) {
            return isMonth(month) ? wantIn(month, wants) : BAD;
        }

        static boolean markFits(int height, int name, int month, int way) {
            return height >= 0 && height <= 9999 && name >= 0 && name <= 6 && month >= 0 && month <= 600
                && way >= 0 && way <= 4;
        }

        int addMark(int height, int name, int month, int way) {
            if (!markFits(height, name, month, way)) {
                return BAD;
            }
            if (marks.size() == 30) {
                return FULL;
            }
            Mark m = new Mark();
            m.height = height;
            m.name = name;
            m.month = month;
            m.way = way;
            for (int p : paints) {
                m.covered |= month <= p;
            }
            marks.add(m);
            return marks.size() - 1;
        }

        int mark(int height, int nw, int month) {
            return nw < 0 ? BAD : addMark(height, nw / 10, month, nw % 10);
        }

        int marks(int shelf, int i, int n) {
            if (shelf < 0 || shelf > 5 || n < 1 || n > 15) {
                return BAD;
            }
            Object o = shelves[shelf];
            if (o != null && !(o instanceof short[])) {
                return -12;
            }
            int came = 0;
            try {
                short[] r = (short[]) o;
                for (int k = i; came < n; k += 4) {
                    if (addMark(r[k], r[k + 1], r[k + 2], r[k + 3]) < 0) {
                        break;
                    }
                    came++;
                }
            } catch (NullPointerException | ArrayIndexOutOfBoundsException e) {
                return came;
            }
            return came;
        }

        int paint(int month) {
            if (!isMonth(month)) {
                return BAD;
            }
            paints.add(month);
            int sum = 0;
            for (Mark m : marks) {
                m.covered |= m.month == 600 || m.month <= month;
                sum += m.covered ? 1 : 0;
            }
            return sum;
        }

        int of(int number, int what) {
            if (what >= 0 && what <= 4 && isMark(number)) {
                Mark m = marks.get(number);
                return new int[] {m.height, m.name, m.month, m.way, m.covered ? 1 : 0}[what];
            }
            if (what >= 10 && what <= 14 && isChild(number)) {
                Child c = children.get(number);
                return new int[] {c.born, c.sex, c.length, c.late, c.parents}[what - 10];
            }
            return VOID;
        }

        int mend(int number, int what, int v) {
            int[] least = {0, 0, -24, 3000};
            int[] most = {9999, 4, 24, 6000};
            if (what < 0 || what > 3 || !(what < 2 ? isMark(number) : isChild(number)) || v < least[what]
                    || v > most[what]) {
                return VOID;
            }
            int was = of(number, what == 0 ? 0 : what == 1 ? 3 : what + 11);
            if (was != v) {
                while (changes.size() > done) {
                    changes.remove(changes.size() - 1);
                }
                changes.add(new int[] {number, what, was, v});
                if (changes.size() > 40) {
                    changes.remove(0);
                }
                done = changes.size();
                set(number, what, v);
            }
            return was;
        }

        void set(int number, int what, int v) {
            table = null;
            switch (what) {
                case 0: marks.get(number).height = v; break;
                case 1: marks.get(number).way = v; break;
                case 2: children.get(number).late = v; break;
                default: children.get(number).parents = v;
            }
        }

        int undo() {
            if (done == 0) {
                return STATE;
            }
            int[] c = changes.get(--done);
            set(c[0], c[1], c[2]);
            return done;
        }

        int redo() {
            if (done == changes.size()) {
                return STATE;
            }
            int[] c = changes.get(done++);
            set(c[0], c[1], c[3]);
            return changes.size() - done;
        }

        static int made(int way, int h) {
            switch (way) {
                case 0: return h;
                case 1: return h + 48;
                case 2: return h + 128;
                case 3: return h < 24 ? 0 : h - 24;
                default: return h % 64 >= 32 ? h - h % 64 + 64 : h - h % 64;
            }
        }

        int away(int height, int child, int month, int way) {
            return Math.abs(height - made(way, h(child, month)));
        }

        int off(int mc, int month, int way) {
            if (mc < 0 || !isMark(mc / 10) || !isChild(mc % 10) || !isMonth(month) || way < 0 || way > 4) {
                return BAD;
            }
            return born(mc % 10, month) ? away(marks.get(mc / 10).height, mc % 10, month, way) : NOT;
        }

        /** {OFF, MONTH, CHILD} of all that may be, the least in that order. */
        int[] whoseOf(Mark m) {
            int[] best = null;
            for (int c = 0; c < children.size(); c++) {
                if (isChild(m.name) && m.name != c) {
                    continue;
                }
                for (int t = 0; t < 600; t++) {
                    if (m.month != 600 && m.month != t || !born(c, t)) {
                        continue;
                    }
                    int[] here = {away(m.height, c, t, m.way), t, c};
                    if (best == null || java.util.Arrays.compare(here, best) < 0) {
                        best = here;
                    }
                }
            }
            return best;
        }

        int whose(int mark, int what) {
            if (!isMark(mark) || what < 0 || what > 2) {
                return BAD;
            }
            int[] best = whoseOf(marks.get(mark));
            return best == null ? NOT : best[2 - what];
        }

        int odds(int mc) {
            if (mc < 0 || !isMark(mc / 10) || !isChild(mc % 10)) {
                return BAD;
            }
            Mark m = marks.get(mc / 10);
            if (m.month == 600) {
                return NOT;
            }
            int sum = 0;
            int its = 0;
            for (int c = 0; c < children.size(); c++) {
                if (born(c, m.month) && (!isChild(m.name) || m.name == c)) {
                    int share = 10000 / (1 + away(m.height, c, m.month, m.way));
                    sum += share;
                    its += c == mc % 10 ? share : 0;
                }
            }
            return sum == 0 ? NOT : its * 1000 / sum;
        }

        int how(int mark, int what) {
            if (!isMark(mark) || what < 0 || what > 1) {
                return BAD;
            }
            Mark m = marks.get(mark);
            int[] best = whoseOf(m);
            if (best == null) {
                return NOT;
            }
            int c = isChild(m.name) ? m.name : best[2];
            int t = m.month != 600 ? m.month : best[1];
            int least = 0;
            for (int way = 0; way < 5; way++) {
                if (away(m.height, c, t, way) < away(m.height, c, t, least)) {
                    least = way;
                }
            }
            boolean wrongWay = away(m.height, c, t, m.way) >= away(m.height, c, t, least) + 32;
            return what == 0 ? least : wrongWay ? 1 : 0;
        }

        int bestSum;
        int[] bestRow;

        void share(List<Mark> some, int[] row, int k, int sum, int month) {
            if (k == some.size()) {
                if (bestRow == null || sum < bestSum) {
                    bestSum = sum;
                    bestRow = row.clone();
                }
                return;
            }
            next:
            for (int c = 0; c < children.size(); c++) {
                for (int j = 0; j < k; j++) {
                    if (row[j] == c) {
                        continue next;
                    }
                }
                if (born(c, month)) {
                    row[k] = c;
                    share(some, row, k + 1, sum + away(some.get(k).height, c, month, some.get(k).way), month);
                }
            }
        }

        int together(int month, int i) {
            if (!isMonth(month) || i < -1) {
                return BAD;
            }
            List<Mark> some = new ArrayList<>();
            for (Mark m : marks) {
                if (m.name == 6 && m.month == month && some.size() < 4) {
                    some.add(m);
                }
            }
            if (i >= some.size()) {
                return BAD;
            }
            bestRow = null;
            share(some, new int[some.size()], 0, 0, month);
            return bestRow == null ? NOT : i < 0 ? bestSum : bestRow[i];
        }

        int turned(int child, int what) {
            if (!isChild(child) || what < 0 || what > 1) {
                return BAD;
            }
            int sum = 0;
            int first = NOT;
            for (int i = marks.size() - 1; i >= 0; i--) {
                Mark x = marks.get(i);
                boolean lower = false;
                for (Mark y : marks) {
                    lower |= y.name == child && y.month < x.month && x.height <= y.height;
                }
                if (x.name == child && x.month != 600 && lower) {
                    sum++;
                    first = i;
                }
            }
            return what == 0 ? sum : first;
        }

        int led(int child) {
            if (!isChild(child)) {
                return BAD;
            }
            int sum = 0;
            for (Mark m : marks) {
                int[] best = whoseOf(m);
                sum += best != null && best[2] == child ? 1 : 0;
            }
            return sum;
        }

        int end(int c) {
            return h(c, Math.min(599, children.get(c).born + 240));
        }

        int tall(int child, int what) {
            if (!isChild(child) || what < 0 || what > 4) {
                return VOID;
            }
            Child c = children.get(child);
            boolean beyond = c.born > 575;
            int twice = beyond ? NOT : 2 * h(child, c.born + 24);
            int parents = c.parents + (c.sex == 1 ? 160 : -160);
            return new int[] {end(child), twice, parents, beyond ? VOID : end(child) - twice,
                end(child) - parents}[what];
        }

        int year(int child, int what) {
            if (!isChild(child) || what < 0 || what > 3) {
                return BAD;
            }
            int born = children.get(child).born;
            int best = NOT;
            int much = 0;
            for (int y = 19; y >= 0; y--) {
                if (born + 12 * y + 12 <= 599) {
                    int grown = h(child, born + 12 * y + 12) - h(child, born + 12 * y);
                    if (best == NOT || (what < 2 ? grown >= much : grown <= much)) {
                        best = y;
                        much = grown;
                    }
                }
            }
            return best == NOT ? NOT : what % 2 == 0 ? best : much;
        }

        int[] model(int child) {
            Child c = children.get(child);
            Child like = new Child();
            like.born = c.born;
            like.sex = c.sex;
            like.length = 1280;
            like.late = 0;
            like.parents = 4300;
            int[] row = new int[600];
            int h = 1280;
            for (int t = like.born; t < 600; t++) {
                if (t > like.born) {
                    int[] names = {t - like.born, like.sex, 0, h / 64, 67, t % 12, 6};
                    h = Math.min(8000, h + growth(names));
                }
                row[t] = h;
            }
            return row;
        }

        int line(int child, int month) {
            if (!isChild(child) || !isMonth(month)) {
                return VOID;
            }
            return born(child, month) ? (100 * h(child, month) / model(child)[month] - 100) / 4 : -1000;
        }

        int falls(int child) {
            if (!isChild(child)) {
                return BAD;
            }
            int[] model = model(child);
            int born = children.get(child).born;
            for (int t = born; t < 600; t++) {
                int line = (100 * h(child, t) / model[t] - 100) / 4;
                for (int u = born; u < t; u++) {
                    if ((100 * h(child, u) / model[u] - 100) / 4 >= line + 2) {
                        return t;
                    }
                }
            }
            return NOT;
        }

        int overtakes(int cd) {
            if (cd < 0 || !isChild(cd / 10) || !isChild(cd % 10) || cd / 10 == cd % 10) {
                return BAD;
            }
            int a = cd / 10;
            int b = cd % 10;
            for (int t = 1; t < 600; t++) {
                if (t > children.get(a).born && t > children.get(b).born && h(a, t) > h(b, t)
                        && h(a, t - 1) <= h(b, t - 1)) {
                    return t;
                }
            }
            return NOT;
        }

        int enough(int child, int span, int much) {
            if (!isChild(child) || badSpan(span) || much < 1 || much > 9) {
                return VOID;
            }
            List<int[]> more = new ArrayList<>(wants);
            more.add(new int[] {span / 1000, span % 1000, much});
            Child c = children.get(child);
            int month = Math.min(599, c.born + 240);
            return heightOf(c, child, month, more) - heightOf(c, child, month, wants);
        }

        int slips(int child, int month, int seed, int nv) {
            if (!isChild(child) || !isMonth(month) || nv < 100 || nv / 100 > 50) {
                return BAD;
            }
            if (!born(child, month)) {
                return NOT;
            }
            int z = seed;
            int v = nv % 100;
            int sum = 0;
            for (int k = 0; k < nv / 100; k++) {
                z = z * 1103515245 + 12345;
                Mark m = new Mark();
                m.height = h(child, month) + (z >>> 8) % (2 * v + 1) - v;
                m.name = 6;
                m.month = month;
                sum += whoseOf(m)[2] == child ? 1 : 0;
            }
            return sum;
        }

        int body(int kind) {
            if (kind < 0 || kind > 7) {
                return BAD;
            }
            if (bodies.size() == 50) {
                return FULL;
            }
            Body b = new Body[] {new Body(), new Named(), new Nameless(), new Tiptoed(), new Evening(),
                new Rounded(), new Shod(), new Covered()}[kind];
            b.n = bodies.size();
            b.trace = trace;
            bodies.add(b);
            return b.n;
        }

        int act(int body, int act, int x) {
            trace.clear();
            if (body < 0 || body >= bodies.size() || act < 0 || act > 3) {
                return 0;
            }
            Body b = bodies.get(body);
            switch (act) {
                case 0: return b.grows(x);
                case 1: return b.stands(x);
                case 2: return b.marks(x);
                default: return b.tells(x);
            }
        }

        int trace(int i) {
            return i >= 0 && i < 24 && i < trace.size() ? trace.get(i) : BAD;
        }

        int keep(int shelf, int body) {
            if (shelf < 0 || shelf > 5 || body < -1 || body >= bodies.size()) {
                return BAD;
            }
            shelves[shelf] = body == -1 ? null : bodies.get(body);
            return 1;
        }

        int row(int shelf, int sort, int n) {
            if (shelf < 0 || shelf > 5 || sort < 0 || sort > 4 || n > 60) {
                return BAD;
            }
            try {
                shelves[shelf] = sort == 0 ? new byte[n] : sort == 1 ? new short[n] : sort == 2 ? new int[n]
                    : sort == 3 ? new long[n] : (Object) new boolean[n];
            } catch (NegativeArraySizeException e) {
                return -14;
            }
            return 1;
        }

        int put(int shelf, int i, long v) {
            if (shelf < 0 || shelf > 5) {
                return BAD;
            }
            Object o = shelves[shelf];
            if (o == null) {
                return -11;
            }
            try {
                if (o instanceof byte[]) {
                    ((byte[]) o)[i] = (byte) v;
                } else if (o instanceof short[]) {
                    ((short[]) o)[i] = (short) v;
                } else if (o instanceof int[]) {
                    ((int[]) o)[i] = (int) v;
                } else if (o instanceof long[]) {
                    ((long[]) o)[i] = v;
                } else {
                    ((boolean[]) o)[i] = v != 0;
                }
            } catch (ClassCastException e) {
                return -12;
            } catch (ArrayIndexOutOfBoundsException e) {
                return -13;
            }
            return 1;
        }

        long element(int shelf, int i) {
            if (shelf < 0 || shelf > 5 || shelves[shelf] == null || shelves[shelf] instanceof Body) {
                return Long.MIN_VALUE;
            }
            Object o = shelves[shelf];
            if (i < 0 || i >= java.lang.reflect.Array.getLength(o)) {
                return Long.MIN_VALUE;
            }
            return o instanceof boolean[] ? ((boolean[]) o)[i] ? 1 : 0 : java.lang.reflect.Array.getLong(o, i);
        }

        int shift(int shelf, int i, int other, int j, int n) {
            if (shelf < 0 || shelf > 5 || other < 0 || other > 5) {
                return BAD;
            }
            try {
                System.arraycopy(shelves[shelf], i, shelves[other], j, n);
            } catch (NullPointerException e) {
                return -11;
            } catch (ArrayStoreException e) {
                return -12;
            } catch (ArrayIndexOutOfBoundsException e) {
                return -13;
            }
            return n;
        }

        int taken(int shelf, int k) {
            if (shelf < 0 || shelf > 5 || k < 0 || k > 7) {
                return BAD;
            }
            Object o = shelves[shelf];
            if (o == null) {
                return -11;
            }
            if (!KINDS[k].isInstance(o)) {
                return -12;
            }
            for (int kind = 0; kind < 8; kind++) {
                if (KINDS[kind] == o.getClass()) {
                    return kind;
                }
            }
            return -12;
        }

        int count(int what) {
            if (what < 0 || what > 6) {
                return BAD;
            }
            return new int[] {children.size(), wants.size(), marks.size(), tape.length(), done, bodies.size(),
                trace.size()}[what];
        }
    }

    // ---- runs

    static final class Run {
        // The edges that the document names, what is beside them, and the ends of the ints.
        static final int[] EDGES = {Integer.MIN_VALUE, Integer.MIN_VALUE + 1, -1001, -100, -11, -10, -9, -4, -2, -1,
            0, 1, 2, 3, 4, 5, 6, 7, 8, 9, 10, 11, 14, 15, 16, 23, 24, 25, 29, 30, 31, 49, 50, 59, 60, 61, 64, 65, 70,
            99, 100, 119, 120, 255, 256, 499, 500, 599, 600, 601, 2000, 2001, 3000, 5099, 5100, 5991, 5992, 6000, 9999,
            10000, 32767, 32768, 244300, 482999, 483000, 486000, 486001, 493000, 599599, 599600, 600599,
            Integer.MAX_VALUE - 3, Integer.MAX_VALUE};
        // What later calls answer is free: no run goes beyond, whatever its last step is.
        static final int MOST_CALLS = 512, LONGEST_STEP = 150;
        final int seed;
        final Random random;
        final DoorPost post = new DoorPost();
        final Oracle oracle = new Oracle();
        int step = 0;

        Run(int seed) {
            this.seed = seed;
            this.random = new Random(seed);
        }

        int upTo(int least, int most) {
            return least + random.nextInt(most - least + 1);
        }

        /** Mostly from the range, at times its edges and what is beyond. */
        int around(int least, int most) {
            switch (random.nextInt(24)) {
                case 0: return least;
                case 1: return most;
                case 2: return least - 1;
                case 3: return most + 1;
                case 4: return random.nextInt(8) == 0 ? random.nextInt() : upTo(least, most);
                default: return upTo(least, most);
            }
        }

        int aChild() {
            return around(0, Math.max(0, oracle.children.size() - 1));
        }

        int aMark() {
            return around(0, Math.max(0, oracle.marks.size() - 1));
        }

        int aMonth() {
            return around(0, 599);
        }

        int aSpan() {
            int from = around(0, 599);
            return from * 1000 + (random.nextBoolean() ? around(0, 599) : Math.min(599, Math.abs(from % 600) + upTo(0, 90)));
        }

        void play() {
            int first = calls;
            int children = upTo(0, 6);
            for (int k = 0; k < children; k++) {
                tellChild();
            }
            switch (random.nextInt(6)) {
                case 0: tellManyMarks(); break;
                case 1: tellManyBodies(); break;
                case 2: tellManyWants(); break;
                default: break;
            }
            for (int k = 0; k < 400 && calls - first <= MOST_CALLS - LONGEST_STEP; k++) {
                step();
            }
            if (calls - first > MOST_CALLS) {
                same(name("calls of one object"), calls - first, MOST_CALLS);
            }
        }

        /** Each call with numbers drawn from the edges alone, on a post that holds something or nothing. */
        void playEdges(List<Method> face) throws Exception {
            int first = calls;
            int children = upTo(0, 6);
            for (int k = 0; k < children; k++) {
                tellChild();
            }
            int marks = upTo(0, 30);
            for (int k = 0; k < marks; k++) {
                tellMark();
            }
            while (calls - first < MOST_CALLS) {
                step++;
                tellEdge(face.get(random.nextInt(face.size())));
            }
        }

        void tellEdge(Method call) throws Exception {
            Class<?>[] types = call.getParameterTypes();
            Object[] drawn = new Object[types.length];
            StringBuilder all = new StringBuilder(call.getName());
            for (int k = 0; k < types.length; k++) {
                int edge = EDGES[random.nextInt(EDGES.length)];
                drawn[k] = types[k] == long.class ? (Object) ((long) edge << upTo(0, 33)) : (Object) edge;
                all.append(' ').append(drawn[k]);
            }
            Method other = Oracle.class.getDeclaredMethod(call.getName(), types);
            same(name(all.toString()), ((Number) call.invoke(post, drawn)).longValue(),
                ((Number) other.invoke(oracle, drawn)).longValue());
        }

        /** Most of thirty, from a row that is taken twice. */
        void tellManyMarks() {
            int shelf = upTo(0, 5);
            fillRow(shelf, 60);
            for (int k = 0; k < 4; k++) {
                int i = 4 * upTo(0, 3);
                same(name("marks", shelf, i, 15), post.marks(shelf, i, 15), oracle.marks(shelf, i, 15));
            }
        }

        void tellManyBodies() {
            int n = upTo(45, 52);
            for (int k = 0; k < n; k++) {
                int kind = upTo(0, 7);
                same(name("body", kind), post.body(kind), oracle.body(kind));
            }
        }

        void tellManyWants() {
            int n = upTo(8, 11);
            for (int k = 0; k < n; k++) {
                int span = aSpan();
                int much = upTo(1, 9);
                same(name("want", span, much), post.want(span, much), oracle.want(span, much));
            }
        }

        void tellChild() {
            int bs = random.nextInt(3) == 0 ? around(0, 5999) : upTo(0, 300) * 10 + upTo(0, 1);
            int length = around(500, 2000);
            int lp = around(0, 48) * 10000 + around(3000, 6000);
            same(name("child", bs, length, lp), post.child(bs, length, lp), oracle.child(bs, length, lp));
        }

        void tellLaw() {
            String text = text(random);
            for (int i = 0; i < text.length(); i++) {
                same(name("feed", text.charAt(i)), post.feed(text.charAt(i)), oracle.feed(text.charAt(i)));
            }
            same(name("law " + text), post.law(), oracle.law());
        }

        void tellMark() {
            int height = around(0, random.nextBoolean() ? 5000 : 9999);
            int nw = random.nextInt(3) == 0 ? around(0, 69) : upTo(0, 6) * 10 + upTo(0, 4);
            int month = random.nextInt(3) == 0 ? 600 : random.nextInt(3) == 0 ? upTo(300, 303) : aMonth();
            same(name("mark", height, nw, month), post.mark(height, nw, month), oracle.mark(height, nw, month));
        }

        String name(String call, int... args) {
            StringBuilder all = new StringBuilder("seed " + seed + " step " + step + ": " + call);
            for (int a : args) {
                all.append(' ').append(a);
            }
            return all.toString();
        }

        void step() {
            step++;
            int a;
            int b;
            int c;
            int d;
            switch (random.nextInt(46)) {
                case 0: tellChild(); break;
                case 1:
                    a = aSpan();
                    b = around(1, 9);
                    same(name("want", a, b), post.want(a, b), oracle.want(a, b));
                    break;
                case 2: if (random.nextInt(3) == 0) tellLaw(); break;
                case 3:
                    a = around(0, 255);
                    if (random.nextInt(12) == 0) {
                        same(name("feed", a), post.feed(a), oracle.feed(a));
                        same(name("law"), post.law(), oracle.law());
                    }
                    break;
                case 4: case 5:
                    a = aChild();
                    b = aMonth();
                    same(name("height", a, b), post.height(a, b), oracle.height(a, b));
                    break;
                case 6:
                    a = aMonth();
                    same(name("wants", a), post.wants(a), oracle.wants(a));
                    break;
                case 7: case 8: case 9: tellMark(); break;
                case 10:
                    a = around(0, 5);
                    b = around(0, 40);
                    c = around(1, 15);
                    same(name("marks", a, b, c), post.marks(a, b, c), oracle.marks(a, b, c));
                    break;
                case 11: fillRow(upTo(0, 5), upTo(0, 30)); break;
                case 12:
                    a = aMonth();
                    if (random.nextInt(3) == 0) same(name("paint", a), post.paint(a), oracle.paint(a));
                    break;
                case 13: case 14:
                    a = random.nextBoolean() ? aMark() : aChild();
                    b = random.nextBoolean() ? around(0, 4) : around(10, 14);
                    same(name("of", a, b), post.of(a, b), oracle.of(a, b));
                    break;
                case 15: case 16: case 17: case 18: tellMend(); break;
                case 19:
                    a = aMark() * 10 + aChild();
                    b = aMonth();
                    c = around(0, 4);
                    same(name("off", a, b, c), post.off(a, b, c), oracle.off(a, b, c));
                    break;
                case 20: case 21:
                    a = aMark();
                    b = around(0, 2);
                    same(name("whose", a, b), post.whose(a, b), oracle.whose(a, b));
                    break;
                case 22: case 23:
                    a = aMark() * 10 + aChild();
                    same(name("odds", a), post.odds(a), oracle.odds(a));
                    break;
                case 24:
                    a = aMark();
                    b = around(0, 1);
                    same(name("how", a, b), post.how(a, b), oracle.how(a, b));
                    break;
                case 25: case 26:
                    a = random.nextInt(3) > 0 ? upTo(300, 303) : aMonth();
                    b = around(-1, 4);
                    same(name("together", a, b), post.together(a, b), oracle.together(a, b));
                    break;
                case 27:
                    a = aChild();
                    b = around(0, 1);
                    same(name("turned", a, b), post.turned(a, b), oracle.turned(a, b));
                    break;
                case 28:
                    a = aChild();
                    same(name("led", a), post.led(a), oracle.led(a));
                    break;
                case 29:
                    a = aChild();
                    b = around(0, 4);
                    same(name("tall", a, b), post.tall(a, b), oracle.tall(a, b));
                    break;
                case 30:
                    a = aChild();
                    b = around(0, 3);
                    same(name("year", a, b), post.year(a, b), oracle.year(a, b));
                    break;
                case 31:
                    a = aChild();
                    b = aMonth();
                    same(name("line", a, b), post.line(a, b), oracle.line(a, b));
                    break;
                case 32:
                    a = aChild();
                    same(name("falls", a), post.falls(a), oracle.falls(a));
                    break;
                case 33:
                    a = aChild() * 10 + aChild();
                    same(name("overtakes", a), post.overtakes(a), oracle.overtakes(a));
                    break;
                case 34:
                    a = aChild();
                    b = aSpan();
                    c = around(1, 9);
                    same(name("enough", a, b, c), post.enough(a, b, c), oracle.enough(a, b, c));
                    break;
                case 35:
                    a = aChild();
                    b = aMonth();
                    c = random.nextInt();
                    d = around(100, 5099);
                    same(name("slips", a, b, c, d), post.slips(a, b, c, d), oracle.slips(a, b, c, d));
                    break;
                case 36: case 37: tellChanges(); break;
                case 38: case 39:
                    a = around(0, 7);
                    same(name("body", a), post.body(a), oracle.body(a));
                    break;
                case 40: tellAct(); break;
                case 41:
                    a = around(0, 5);
                    b = around(-1, oracle.bodies.size() - 1);
                    same(name("keep", a, b), post.keep(a, b), oracle.keep(a, b));
                    break;
                case 42:
                    a = around(0, 5);
                    b = around(0, 4);
                    c = around(0, 60);
                    same(name("row", a, b, c), post.row(a, b, c), oracle.row(a, b, c));
                    break;
                case 43: tellElement(); break;
                case 44: tellShift(); break;
                default:
                    a = around(0, 5);
                    b = around(0, 7);
                    same(name("taken", a, b), post.taken(a, b), oracle.taken(a, b));
                    a = around(0, 6);
                    same(name("count", a), post.count(a), oracle.count(a));
                    break;
            }
        }

        void fillRow(int shelf, int n) {
            same(name("row", shelf, 1, n), post.row(shelf, 1, n), oracle.row(shelf, 1, n));
            for (int i = 0; i < n; i++) {
                int v = new int[] {upTo(0, 5000), upTo(0, 6), upTo(0, 600), upTo(0, 4)}[i % 4];
                if (random.nextInt(80) == 0) {
                    v = around(-1, 10000);
                }
                same(name("put", shelf, i, v), post.put(shelf, i, v), oracle.put(shelf, i, v));
            }
        }

        void tellMend() {
            int what = around(0, 3);
            int number = what < 2 ? aMark() : aChild();
            int v = what == 0 ? around(0, 9999) : what == 1 ? around(0, 4) : what == 2 ? around(-24, 24)
                : around(3000, 6000);
            same(name("mend", number, what, v), post.mend(number, what, v), oracle.mend(number, what, v));
        }

        /** Several mends or none, then several back and several forth. */
        void tellChanges() {
            int mends = random.nextInt(6) == 0 ? upTo(0, 45) : 0;
            for (int k = 0; k < mends; k++) {
                tellMend();
            }
            int undos = upTo(0, mends > 0 ? 50 : 6);
            for (int k = 0; k < undos; k++) {
                same(name("undo"), post.undo(), oracle.undo());
            }
            int redos = upTo(0, undos);
            for (int k = 0; k < redos; k++) {
                same(name("redo"), post.redo(), oracle.redo());
            }
            same(name("count", 4), post.count(4), oracle.count(4));
        }

        void tellAct() {
            int body = around(0, Math.max(0, oracle.bodies.size() - 1));
            int act = around(0, 3);
            int x = random.nextInt(3) == 0 ? random.nextInt() : upTo(-100, 100);
            same(name("act", body, act, x), post.act(body, act, x), oracle.act(body, act, x));
            for (int i = -1; i < 25; i++) {
                same(name("trace", i), post.trace(i), oracle.trace(i));
            }
            same(name("count", 6), post.count(6), oracle.count(6));
        }

        void tellElement() {
            int shelf = around(0, 5);
            int i = around(0, 59);
            long v = random.nextInt(4) == 0 ? 0 : random.nextLong() >> upTo(0, 63);
            same(name("put", shelf, i), post.put(shelf, i, v), oracle.put(shelf, i, v));
            same(name("element", shelf, i), post.element(shelf, i), oracle.element(shelf, i));
        }

        void tellShift() {
            int a = around(0, 5);
            int b = random.nextBoolean() ? a : around(0, 5);
            int i = around(0, 30);
            int j = around(0, 30);
            int n = around(0, 25);
            same(name("shift", a, i, b, j, n), post.shift(a, i, b, j, n), oracle.shift(a, i, b, j, n));
            for (int k = 0; k < 60; k++) {
                same(name("element", b, k), post.element(b, k), oracle.element(b, k));
            }
        }
    }

    // ---- texts

    static String text(Random random) {
        StringBuilder all = new StringBuilder();
        int lines = 1 + random.nextInt(4);
        for (int i = 0; i < lines; i++) {
            all.append(i == 0 ? "" : ";");
            if (random.nextInt(3) > 0) {
                all.append(random.nextInt(3) > 0 ? "a<" + random.nextInt(240) : e(random, 2)).append('?');
            }
            all.append(random.nextInt(3) > 0 ? random.nextInt(60) + "-w" : e(random, 3));
        }
        if (random.nextInt(6) == 0 && all.length() > 0) {
            all.setCharAt(random.nextInt(all.length()), "()!-+*/%<=>&|;?0aswhpmk9zZ ".charAt(random.nextInt(27)));
        }
        if (random.nextInt(12) == 0) {
            all.setLength(random.nextInt(all.length() + 1));
        }
        return all.length() > 120 ? all.substring(0, 120) : all.toString();
    }

    static String e(Random random, int deep) {
        int pick = random.nextInt(deep > 0 ? 10 : 3);
        switch (pick) {
            case 0: return "" + random.nextInt(random.nextBoolean() ? 10 : 10000);
            case 1: case 2: return "" + "aswhpmk".charAt(random.nextInt(7));
            case 3: return "(" + e(random, deep - 1) + ")";
            case 4: return "!" + e(random, deep - 1);
            case 5: return "-" + e(random, deep - 1);
            default:
                return e(random, deep - 1) + "|&<=>+-*/%+-*/".charAt(random.nextInt(14)) + e(random, deep - 1);
        }
    }

    /** Texts alone: rows of signs that lie near to texts, so that FAULTS come everywhere. */
    static void playLaws(Random random, int seed) {
        DoorPost post = new DoorPost();
        Oracle oracle = new Oracle();
        int bs = random.nextInt(3000) * 2 % 3000 / 10 * 10 + random.nextInt(2);
        post.child(bs, 1280, 244300);
        oracle.child(bs, 1280, 244300);
        post.want(20060, 3);
        oracle.want(20060, 3);
        String text;
        if (random.nextInt(3) == 0) {
            StringBuilder signs = new StringBuilder();
            int length = random.nextInt(30);
            for (int i = 0; i < length; i++) {
                signs.append("((!-))aw12+*<=|&?;".charAt(random.nextInt(18)));
            }
            text = signs.toString();
        } else {
            text = text(random);
        }
        for (int i = 0; i < text.length(); i++) {
            post.feed(text.charAt(i));
            oracle.feed(text.charAt(i));
        }
        same("laws " + seed + ": " + text, post.law(), oracle.law());
        for (int month = 0; month < 600; month += 1 + random.nextInt(40)) {
            same("laws " + seed + ": " + text + " height " + month, post.height(0, month), oracle.height(0, month));
        }
    }
}
