/**
 * Marks on a door post: children who grow by a told law, marks made of them, and what can be
 * said of both. Every call looks at its arguments first and answers a number, never an exception.
 */
public final class DoorPost {
    public static final int BAD = -1, NOT = -2, FULL = -3, STATE = -5, VOID = -2000000000;

    private static final int NOTHING_THERE = -11, OTHER_KIND = -12, NO_PLACE = -13, BELOW_ZERO = -14;

    private static final int MONTHS = 600, LAST_MONTH = 599, NO_MONTH = 600;
    private static final int MOST_CHILDREN = 6, NO_NAME = 6;
    private static final int LEAST_LENGTH = 500, MOST_LENGTH = 2000;
    private static final int MOST_LATE = 24;
    private static final int LEAST_PARENTS = 3000, MOST_PARENTS = 6000;
    private static final int MOST_WANTS = 10, MOST_WANT = 9;
    private static final int MOST_MARKS = 30, MOST_MARK_HEIGHT = 9999, LAST_WAY = 4;
    private static final int INCH = 64;

    private final Law growthLaw;
    private final Reader reader;
    private final Family family;
    private final Marks postMarks;
    private final Guesses guesses;
    private final Outlook outlook;
    private final Changes changes;
    private final Acts acts;
    private final Shelves shelves;

    public DoorPost() {
        growthLaw = new Law();
        reader = new Reader();
        family = new Family(growthLaw);
        postMarks = new Marks();
        guesses = new Guesses(family, postMarks);
        outlook = new Outlook(family);
        changes = new Changes(family, postMarks);
        acts = new Acts();
        shelves = new Shelves();
    }

    // ---- children, wants, the law

    public int child(int bs, int length, int lp) {
        if (bs < 0 || lp < 0) {
            return BAD;
        }
        int born = bs / 10;
        int sex = bs % 10;
        int late = lp / 10000 - MOST_LATE;
        int parents = lp % 10000;
        if (!isMonth(born) || sex > 1 || !within(length, LEAST_LENGTH, MOST_LENGTH)
                || !isLate(late) || !isParents(parents)) {
            return BAD;
        }
        if (family.size() >= MOST_CHILDREN) {
            return FULL;
        }
        int number = family.add(born, sex, length, late, parents);
        family.refresh();
        return number;
    }

    public int want(int span, int much) {
        if (!isSpan(span) || !within(much, 1, MOST_WANT)) {
            return BAD;
        }
        if (family.wantsTold() >= MOST_WANTS) {
            return FULL;
        }
        int number = family.addWant(span / 1000, span % 1000, much);
        family.refresh();
        return number;
    }

    public int feed(int letter) {
        if (!within(letter, 0, 255)) {
            return BAD;
        }
        if (reader.tapeLength() >= Reader.MOST_BYTES) {
            return FULL;
        }
        return reader.take(letter);
    }

    public int law() {
        int fault = reader.read();
        if (fault < 0) {
            reader.giveTo(growthLaw);
            family.forgetHeights();
            family.refresh();
        }
        reader.emptyTape();
        return fault < 0 ? 1 : -100 - fault;
    }

    public int height(int child, int month) {
        if (!family.has(child) || !isMonth(month)) {
            return BAD;
        }
        return family.heightAt(child, month);
    }

    public int wants(int month) {
        return isMonth(month) ? family.wantAt(month) : BAD;
    }

    // ---- marks

    public int mark(int height, int nw, int month) {
        if (nw < 0 || !isMark(height, nw / 10, month, nw % 10)) {
            return BAD;
        }
        if (postMarks.size() >= MOST_MARKS) {
            return FULL;
        }
        return postMarks.add(height, nw / 10, month, nw % 10);
    }

    public int marks(int shelf, int i, int n) {
        // No place is BAD here: at one that is not there, below 0 too, the row has ended.
        if (!shelves.has(shelf) || !within(n, 1, 15)) {
            return BAD;
        }
        if (!shelves.holdsNothing(shelf) && !shelves.holdsShorts(shelf)) {
            return OTHER_KIND;
        }
        int came = 0;
        for (int k = 0; k < n && markFromRow(shelf, i + 4 * k); k++) {
            came++;
        }
        return came;
    }

    public int paint(int month) {
        if (!isMonth(month)) {
            return BAD;
        }
        postMarks.cover(month);
        return postMarks.covered();
    }

    public int of(int number, int what) {
        if (within(what, 0, 4) && postMarks.has(number)) {
            return postMarks.told(number, what);
        }
        if (within(what, 10, 14) && family.has(number)) {
            return family.told(number, what - 10);
        }
        return VOID;
    }

    public int mend(int number, int what, int v) {
        if (!isMendable(number, what, v)) {
            return VOID;
        }
        int before = changes.change(number, what, v);
        family.refresh();
        return before;
    }

    public int off(int mc, int month, int way) {
        if (!isMarkAndChild(mc) || !isMonth(month) || !within(way, 0, LAST_WAY)) {
            return BAD;
        }
        return guesses.distance(postMarks.heightOf(mc / 10), mc % 10, month, way);
    }

    public int whose(int mark, int what) {
        if (!postMarks.has(mark) || !within(what, 0, 2)) {
            return BAD;
        }
        if (!guesses.findFor(mark)) {
            return NOT;
        }
        switch (what) {
            case 0: return guesses.foundChild();
            case 1: return guesses.foundMonth();
            default: return guesses.foundDistance();
        }
    }

    public int odds(int mc) {
        return isMarkAndChild(mc) ? guesses.chance(mc / 10, mc % 10) : BAD;
    }

    public int how(int mark, int what) {
        if (!postMarks.has(mark) || !within(what, 0, 1)) {
            return BAD;
        }
        if (!guesses.findFor(mark)) {
            return NOT;
        }
        return what == 0 ? guesses.likeliestWay(mark) : guesses.wrongWay(mark);
    }

    public int together(int month, int i) {
        if (!isMonth(month)) {
            return BAD;
        }
        int gathered = guesses.gather(month);
        if (i < -1 || i >= gathered) {
            return BAD;
        }
        if (!guesses.shareOut(month)) {
            return NOT;
        }
        return i < 0 ? guesses.sharedSum() : guesses.sharedChild(i);
    }

    public int turned(int child, int what) {
        if (!family.has(child) || !within(what, 0, 1)) {
            return BAD;
        }
        return what == 0 ? postMarks.turnedMarks(child) : postMarks.firstTurned(child);
    }

    public int led(int child) {
        return family.has(child) ? guesses.leadingTo(child) : BAD;
    }

    // ---- how tall

    public int tall(int child, int what) {
        if (!family.has(child)) {
            return VOID;
        }
        switch (what) {
            case 0: return outlook.endOf(child);
            case 1: return outlook.twiceAtTwo(child);
            case 2: return outlook.byParents(child);
            case 3:
                int twice = outlook.twiceAtTwo(child);
                return twice == NOT ? VOID : outlook.endOf(child) - twice;
            case 4: return outlook.endOf(child) - outlook.byParents(child);
            default: return VOID;
        }
    }

    public int year(int child, int what) {
        if (!family.has(child) || !within(what, 0, 3)) {
            return BAD;
        }
        int found = outlook.yearOf(child, what < 2);
        if (found == NOT) {
            return NOT;
        }
        return what % 2 == 0 ? found : outlook.growthInYear(child, found);
    }

    public int line(int child, int month) {
        if (!family.has(child) || !isMonth(month)) {
            return VOID;
        }
        return family.isBorn(child, month) ? outlook.lineAt(child, month) : -1000;
    }

    public int falls(int child) {
        return family.has(child) ? outlook.firstFall(child) : BAD;
    }

    public int overtakes(int cd) {
        if (cd < 0 || !family.has(cd / 10) || !family.has(cd % 10) || cd / 10 == cd % 10) {
            return BAD;
        }
        return outlook.firstOvertaking(cd / 10, cd % 10);
    }

    public int enough(int child, int span, int much) {
        if (!family.has(child) || !isSpan(span) || !within(much, 1, MOST_WANT)) {
            return VOID;
        }
        family.think(child, span / 1000, span % 1000, much);
        return family.thoughtHeightAt(outlook.endMonth(child)) - outlook.endOf(child);
    }

    public int slips(int child, int month, int seed, int nv) {
        if (!family.has(child) || !isMonth(month) || nv < 0 || !within(nv / 100, 1, 50)) {
            return BAD;
        }
        if (!family.isBorn(child, month)) {
            return NOT;
        }
        return guesses.slipsFound(child, month, seed, nv / 100, nv % 100);
    }

    public int undo() {
        if (changes.toUndo() == 0) {
            return STATE;
        }
        changes.goBack();
        family.refresh();
        return changes.toUndo();
    }

    public int redo() {
        if (changes.toRedo() == 0) {
            return STATE;
        }
        changes.goForward();
        family.refresh();
        return changes.toRedo();
    }

    // ---- acts, shelves

    public int body(int kind) {
        if (!Acts.isKind(kind)) {
            return BAD;
        }
        return acts.size() < Acts.MOST_BODIES ? acts.add(kind) : FULL;
    }

    public int act(int body, int act, int x) {
        return acts.start(body, act, x);
    }

    public int trace(int i) {
        return acts.ranAt(i);
    }

    public int keep(int shelf, int body) {
        if (!shelves.has(shelf) || body != -1 && !acts.has(body)) {
            return BAD;
        }
        shelves.holdBody(shelf, body);
        return 1;
    }

    public int row(int shelf, int sort, int n) {
        if (!shelves.has(shelf) || !Shelves.isSort(sort) || n > Shelves.MOST_ELEMENTS) {
            return BAD;
        }
        if (n < 0) {
            return BELOW_ZERO;
        }
        shelves.holdRow(shelf, sort, n);
        return 1;
    }

    public int put(int shelf, int i, long v) {
        int refusal = refusalAt(shelf, i);
        if (refusal != 0) {
            return refusal;
        }
        shelves.set(shelf, i, v);
        return 1;
    }

    public long element(int shelf, int i) {
        return refusalAt(shelf, i) != 0 ? Long.MIN_VALUE : shelves.get(shelf, i);
    }

    public int shift(int shelf, int i, int other, int j, int n) {
        if (!shelves.has(shelf) || !shelves.has(other)) {
            return BAD;
        }
        if (shelves.holdsNothing(shelf) || shelves.holdsNothing(other)) {
            return NOTHING_THERE;
        }
        if (!shelves.holdsRow(shelf) || !shelves.holdsRow(other) || !shelves.areAlike(shelf, other)) {
            return OTHER_KIND;
        }
        if (!shelves.hasPlaces(shelf, i, n) || !shelves.hasPlaces(other, j, n)) {
            return NO_PLACE;
        }
        shelves.move(shelf, i, other, j, n);
        return n;
    }

    public int taken(int shelf, int k) {
        if (!shelves.has(shelf) || !Acts.isKind(k)) {
            return BAD;
        }
        if (shelves.holdsNothing(shelf)) {
            return NOTHING_THERE;
        }
        if (shelves.holdsRow(shelf)) {
            return OTHER_KIND;
        }
        int kind = acts.kindOf(shelves.bodyOn(shelf));
        return Acts.isUnder(kind, k) ? kind : OTHER_KIND;
    }

    public int count(int what) {
        switch (what) {
            case 0: return family.size();
            case 1: return family.wantsTold();
            case 2: return postMarks.size();
            case 3: return reader.tapeLength();
            case 4: return changes.toUndo();
            case 5: return acts.size();
            case 6: return acts.ranInAll();
            default: return BAD;
        }
    }

    // ---- what may be told

    private static boolean within(int v, int least, int most) {
        return least <= v && v <= most;
    }

    private static boolean isMonth(int month) {
        return within(month, 0, LAST_MONTH);
    }

    private static boolean isLate(int late) {
        return within(late, -MOST_LATE, MOST_LATE);
    }

    private static boolean isParents(int parents) {
        return within(parents, LEAST_PARENTS, MOST_PARENTS);
    }

    private static boolean isSpan(int span) {
        return span >= 0 && isMonth(span / 1000) && isMonth(span % 1000) && span / 1000 <= span % 1000;
    }

    private static boolean isMark(int height, int name, int month, int way) {
        return within(height, 0, MOST_MARK_HEIGHT) && within(name, 0, NO_NAME)
                && within(month, 0, NO_MONTH) && within(way, 0, LAST_WAY);
    }

    private boolean isMarkAndChild(int mc) {
        return mc >= 0 && postMarks.has(mc / 10) && family.has(mc % 10);
    }

    private boolean isMendable(int number, int what, int v) {
        switch (what) {
            case Changes.HEIGHT: return postMarks.has(number) && within(v, 0, MOST_MARK_HEIGHT);
            case Changes.WAY: return postMarks.has(number) && within(v, 0, LAST_WAY);
            case Changes.LATE: return family.has(number) && isLate(v);
            case Changes.PARENTS: return family.has(number) && isParents(v);
            default: return false;
        }
    }

    /** Tells whether a MARK came from the four elements of a ROW from a place on. */
    private boolean markFromRow(int shelf, int from) {
        if (postMarks.size() >= MOST_MARKS || !shelves.hasPlaces(shelf, from, 4)) {
            return false;
        }
        int height = (int) shelves.get(shelf, from);
        int name = (int) shelves.get(shelf, from + 1);
        int month = (int) shelves.get(shelf, from + 2);
        int way = (int) shelves.get(shelf, from + 3);
        if (!isMark(height, name, month, way)) {
            return false;
        }
        postMarks.add(height, name, month, way);
        return true;
    }

    /** Why element i of what a SHELF holds can't be reached; 0 if it can. */
    private int refusalAt(int shelf, int i) {
        if (!shelves.has(shelf)) {
            return BAD;
        }
        if (shelves.holdsNothing(shelf)) {
            return NOTHING_THERE;
        }
        if (!shelves.holdsRow(shelf)) {
            return OTHER_KIND;
        }
        return shelves.hasPlaces(shelf, i, 1) ? 0 : NO_PLACE;
    }

    /**
     * THE LAW: its text stands here as steps for a stack (operands first), so that it is read
     * once and not again for each of the thousands of MONTHS that are worked out by it.
     */
    private static final class Law {
        static final int NUMBER = '0', NAME = 'a', NEGATE = 'n';
        static final int AGE = 0, SEX = 1, WANT = 2, SO_FAR = 3, PARENTS = 4, IN_YEAR = 5, CHILD = 6;
        static final int NAMES = 7;
        // One step a byte at most, and one more for the end of the last LINE.
        static final int MOST_STEPS = Reader.MOST_BYTES + 1;
        private static final int MOST_GROWTH = 99;

        private final int[] steps = new int[MOST_STEPS];
        // Of a NUMBER its value, of a NAME its place, of a ? the step at which the next LINE begins.
        private final int[] details = new int[MOST_STEPS];
        private final int[] stack = new int[MOST_STEPS];
        private int length = 0;
        private int top = 0;
        private boolean hasText = false;

        void become(int[] newSteps, int[] newDetails, int newLength) {
            length = Math.min(newLength, Math.min(MOST_STEPS, Math.min(newSteps.length, newDetails.length)));
            for (int i = 0; i < length; i++) {
                steps[i] = newSteps[i];
                details[i] = newDetails[i];
            }
            hasText = true;
        }

        int growth(int[] names) {
            if (names.length < NAMES) {
                return 0;
            }
            int gives = hasText ? workOut(names) : withoutText(names[AGE]);
            return Math.max(0, Math.min(MOST_GROWTH, gives));
        }

        private static int withoutText(int age) {
            if (age < 12) {
                return 40;
            }
            if (age < 132) {
                return 16;
            }
            if (age < 168) {
                return 20;
            }
            return age < 204 ? 4 : 0;
        }

        private int workOut(int[] names) {
            top = 0;
            int nextLine = 0;
            for (int i = 0; i < length; i++) {
                int step = steps[i];
                if (i < nextLine) {
                    continue;
                }
                if (step == ';') {
                    return pop();
                }
                if (step == '?') {
                    nextLine = pop() == 0 ? details[i] : i;
                } else {
                    takeStep(step, details[i], names);
                }
            }
            return 0;
        }

        private void takeStep(int step, int detail, int[] names) {
            switch (step) {
                case NUMBER:
                    push(detail);
                    break;
                case NAME:
                    push(0 <= detail && detail < names.length ? names[detail] : 0);
                    break;
                case NEGATE:
                    push(-pop());
                    break;
                case '!':
                    push(pop() == 0 ? 1 : 0);
                    break;
                default:
                    int right = pop();
                    push(joined(step, pop(), right));
                    break;
            }
        }

        private static int joined(int operator, int left, int right) {
            switch (operator) {
                case '|': return left != 0 || right != 0 ? 1 : 0;
                case '&': return left != 0 && right != 0 ? 1 : 0;
                case '<': return left < right ? 1 : 0;
                case '=': return left == right ? 1 : 0;
                case '>': return left > right ? 1 : 0;
                case '+': return left + right;
                case '-': return left - right;
                case '*': return left * right;
                case '/': return right == 0 ? 0 : left / right;
                case '%': return right == 0 ? 0 : left % right;
                default: return 0;
            }
        }

        private void push(int v) {
            if (top < MOST_STEPS) {
                stack[top] = v;
                top++;
            }
        }

        private int pop() {
            if (top <= 0) {
                return 0;
            }
            top--;
            return stack[top];
        }
    }

    /**
     * THE TAPE, and what reads it. Each method stops at the first byte that can't go on, so that
     * the place it stands at then is the FAULT.
     */
    private static final class Reader {
        static final int MOST_BYTES = 120;
        private static final int MOST_OPEN = 6;
        private static final int MOST_DIGITS = 4;
        private static final int COMPARING = 2, LAST_LEVEL = 4;
        private static final String NAME_LETTERS = "aswhpmk";

        private final int[] tape = new int[MOST_BYTES];
        private final int[] steps = new int[Law.MOST_STEPS];
        private final int[] details = new int[Law.MOST_STEPS];
        private int fed = 0;
        private int at = 0;
        private int written = 0;

        int tapeLength() {
            return fed;
        }

        int take(int letter) {
            if (fed < MOST_BYTES) {
                tape[fed] = letter;
                fed++;
            }
            return fed;
        }

        void emptyTape() {
            fed = 0;
        }

        void giveTo(Law law) {
            law.become(steps, details, written);
        }

        /** The FAULT of THE TAPE; -1 if it holds a TEXT. */
        int read() {
            at = 0;
            written = 0;
            boolean fine = readLine();
            for (int n = 0; n < MOST_BYTES && fine && at < fed; n++) {
                fine = skip(';') && readLine();
            }
            return fine ? -1 : at;
        }

        private boolean readLine() {
            if (!readJoined(0, 0)) {
                return false;
            }
            if (skip('?')) {
                int question = written;
                write('?', 0);
                if (!readJoined(0, 0)) {
                    return false;
                }
                if (question < details.length) {
                    details[question] = written + 1;
                }
            }
            write(';', 0);
            return true;
        }

        /** Operands of one level's operators; each level's operands are of the next, tighter one. */
        private boolean readJoined(int level, int open) {
            boolean fine = readTighter(level, open);
            int most = level == COMPARING ? 1 : MOST_BYTES;
            for (int n = 0; n < most && fine && isOperator(level, seen()); n++) {
                int operator = seen();
                at++;
                fine = readTighter(level, open);
                write(operator, 0);
            }
            return fine;
        }

        private boolean readTighter(int level, int open) {
            return level < LAST_LEVEL ? readJoined(level + 1, open) : readOperand(open);
        }

        private boolean readOperand(int open) {
            int letter = seen();
            if (letter == '(' || letter == '!' || letter == '-') {
                return open < MOST_OPEN && readOpened(letter, open + 1);
            }
            if (isDigit(letter)) {
                readNumber();
                return true;
            }
            int name = letter < 0 ? -1 : NAME_LETTERS.indexOf((char) letter);
            if (name < 0) {
                return false;
            }
            at++;
            write(Law.NAME, name);
            return true;
        }

        private boolean readOpened(int opener, int open) {
            at++;
            if (opener == '(') {
                return readJoined(0, open) && skip(')');
            }
            boolean fine = readOperand(open);
            write(opener == '-' ? Law.NEGATE : opener, 0);
            return fine;
        }

        private void readNumber() {
            int number = 0;
            for (int n = 0; n < MOST_DIGITS && isDigit(seen()); n++) {
                number = number * 10 + seen() - '0';
                at++;
            }
            write(Law.NUMBER, number);
        }

        private static boolean isOperator(int level, int letter) {
            switch (level) {
                case 0: return letter == '|';
                case 1: return letter == '&';
                case COMPARING: return letter == '<' || letter == '=' || letter == '>';
                case 3: return letter == '+' || letter == '-';
                case LAST_LEVEL: return letter == '*' || letter == '/' || letter == '%';
                default: return false;
            }
        }

        private static boolean isDigit(int letter) {
            return '0' <= letter && letter <= '9';
        }

        private int seen() {
            return 0 <= at && at < fed && at < MOST_BYTES ? tape[at] : -1;
        }

        private boolean skip(int letter) {
            if (seen() != letter) {
                return false;
            }
            at++;
            return true;
        }

        private void write(int step, int detail) {
            if (written < steps.length && written < details.length) {
                steps[written] = step;
                details[written] = detail;
                written++;
            }
        }
    }

    /**
     * CHILDREN, WANTS and HEIGHTS. Rows of HEIGHTS are kept, since most calls look at whole rows;
     * what changes one makes it stale, and refresh() is due before the next look.
     */
    private static final class Family {
        private static final int MOST_HEIGHT = 8000;
        private static final int MODEL_LENGTH = 1280, MODEL_PARENTS = 4300, MODEL_NUMBER = 6;

        private final Law law;
        private final int[] born = new int[MOST_CHILDREN];
        private final int[] sex = new int[MOST_CHILDREN];
        private final int[] length = new int[MOST_CHILDREN];
        private final int[] late = new int[MOST_CHILDREN];
        private final int[] parents = new int[MOST_CHILDREN];
        private int children = 0;
        private final int[] want = new int[MONTHS];
        private final int[] noWant = new int[MONTHS];
        private final int[] thoughtWant = new int[MONTHS];
        private int wantCount = 0;
        private final int[][] heights = new int[MOST_CHILDREN][MONTHS];
        private final int[][] modelHeights = new int[MOST_CHILDREN][MONTHS];
        private final int[] thoughtHeights = new int[MONTHS];
        private final boolean[] stale = new boolean[MOST_CHILDREN];
        private final int[] names = new int[Law.NAMES];

        Family(Law law) {
            this.law = law;
        }

        int size() {
            return children;
        }

        boolean has(int child) {
            return 0 <= child && child < children;
        }

        int add(int itsBorn, int itsSex, int itsLength, int itsLate, int itsParents) {
            if (children >= MOST_CHILDREN) {
                return FULL;
            }
            born[children] = itsBorn;
            sex[children] = itsSex;
            length[children] = itsLength;
            late[children] = itsLate;
            parents[children] = itsParents;
            stale[children] = true;
            children++;
            return children - 1;
        }

        /** What was told of a CHILD, by the order of the document: BORN, SEX, LENGTH, LATE, PARENTS. */
        int told(int child, int what) {
            if (!has(child)) {
                return VOID;
            }
            switch (what) {
                case 0: return born[child];
                case 1: return sex[child];
                case 2: return length[child];
                case 3: return late[child];
                case 4: return parents[child];
                default: return VOID;
            }
        }

        int bornIn(int child) {
            return has(child) ? born[child] : MONTHS;
        }

        boolean isBorn(int child, int month) {
            return has(child) && month >= born[child];
        }

        void becomeLate(int child, int v) {
            if (has(child)) {
                late[child] = v;
                stale[child] = true;
            }
        }

        void becomeParents(int child, int v) {
            if (has(child)) {
                parents[child] = v;
                stale[child] = true;
            }
        }

        int wantsTold() {
            return wantCount;
        }

        int wantAt(int month) {
            return isMonth(month) ? want[month] : 0;
        }

        int addWant(int from, int to, int much) {
            raise(want, from, to, much);
            forgetHeights();
            wantCount++;
            return wantCount - 1;
        }

        private static void raise(int[] wants, int from, int to, int much) {
            for (int month = Math.max(0, from); month <= to && month < wants.length; month++) {
                wants[month] = Math.max(wants[month], much);
            }
        }

        void forgetHeights() {
            for (int child = 0; child < children && child < MOST_CHILDREN; child++) {
                stale[child] = true;
            }
        }

        void refresh() {
            for (int child = 0; child < children && child < MOST_CHILDREN; child++) {
                if (stale[child]) {
                    name(sex[child], parents[child], child);
                    grow(heights[child], born[child], length[child], late[child], want);
                    name(sex[child], MODEL_PARENTS, MODEL_NUMBER);
                    grow(modelHeights[child], born[child], MODEL_LENGTH, 0, noWant);
                    stale[child] = false;
                }
            }
        }

        int heightAt(int child, int month) {
            return has(child) && 0 <= month && month < MONTHS ? heights[child][month] : 0;
        }

        /** HEIGHT of the one whom LINE compares a CHILD with. */
        int modelHeightAt(int child, int month) {
            return has(child) && 0 <= month && month < MONTHS ? modelHeights[child][month] : 0;
        }

        /** Works out the HEIGHTS of a CHILD with one WANT more, which isn't told. */
        void think(int child, int from, int to, int much) {
            if (has(child)) {
                System.arraycopy(want, 0, thoughtWant, 0, MONTHS);
                raise(thoughtWant, from, to, much);
                name(sex[child], parents[child], child);
                grow(thoughtHeights, born[child], length[child], late[child], thoughtWant);
            }
        }

        int thoughtHeightAt(int month) {
            return 0 <= month && month < MONTHS ? thoughtHeights[month] : 0;
        }

        private void name(int itsSex, int itsParents, int number) {
            names[Law.SEX] = itsSex;
            names[Law.PARENTS] = itsParents / INCH;
            names[Law.CHILD] = number;
        }

        private void grow(int[] row, int itsBorn, int itsLength, int itsLate, int[] wants) {
            int height = 0;
            for (int month = 0; month < row.length && month < wants.length; month++) {
                if (month == itsBorn) {
                    height = itsLength;
                } else if (month > itsBorn) {
                    names[Law.AGE] = month - itsBorn - itsLate;
                    names[Law.WANT] = wants[month];
                    names[Law.SO_FAR] = height / INCH;
                    names[Law.IN_YEAR] = month % 12;
                    height = Math.min(MOST_HEIGHT, height + law.growth(names));
                }
                row[month] = height;
            }
        }
    }

    /** What stands on the post. */
    private static final class Marks {
        private final int[] height = new int[MOST_MARKS];
        private final int[] name = new int[MOST_MARKS];
        private final int[] month = new int[MOST_MARKS];
        private final int[] way = new int[MOST_MARKS];
        private int made = 0;
        private int paintedUpTo = -1;
        private int madeAheadOfPaint = 0;

        int size() {
            return made;
        }

        boolean has(int mark) {
            return 0 <= mark && mark < made;
        }

        int add(int itsHeight, int itsName, int itsMonth, int itsWay) {
            if (made >= MOST_MARKS) {
                return FULL;
            }
            height[made] = itsHeight;
            name[made] = itsName;
            month[made] = itsMonth;
            way[made] = itsWay;
            made++;
            return made - 1;
        }

        /** What is known of a MARK, by the order of the document: HEIGHT, NAME, MONTH, WAY, COVERED. */
        int told(int mark, int what) {
            switch (what) {
                case 0: return heightOf(mark);
                case 1: return nameOf(mark);
                case 2: return monthOf(mark);
                case 3: return wayOf(mark);
                case 4: return isCovered(mark) ? 1 : 0;
                default: return VOID;
            }
        }

        int heightOf(int mark) {
            return has(mark) ? height[mark] : 0;
        }

        int nameOf(int mark) {
            return has(mark) ? name[mark] : NO_NAME;
        }

        int monthOf(int mark) {
            return has(mark) ? month[mark] : NO_MONTH;
        }

        int wayOf(int mark) {
            return has(mark) ? way[mark] : 0;
        }

        void becomeHeight(int mark, int v) {
            if (has(mark)) {
                height[mark] = v;
            }
        }

        void becomeWay(int mark, int v) {
            if (has(mark)) {
                way[mark] = v;
            }
        }

        void cover(int upTo) {
            paintedUpTo = Math.max(paintedUpTo, upTo);
            madeAheadOfPaint = made;
        }

        int covered() {
            int sum = 0;
            for (int mark = 0; mark < made; mark++) {
                if (isCovered(mark)) {
                    sum++;
                }
            }
            return sum;
        }

        // A MARK with a MONTH lies below later told PAINT and earlier told PAINT alike: only its
        // MONTH counts. One without a MONTH has nothing but the order of telling.
        private boolean isCovered(int mark) {
            int its = monthOf(mark);
            return its == NO_MONTH ? mark < madeAheadOfPaint : its <= paintedUpTo;
        }

        int turnedMarks(int child) {
            int sum = 0;
            for (int mark = 0; mark < made; mark++) {
                if (isTurned(mark, child)) {
                    sum++;
                }
            }
            return sum;
        }

        int firstTurned(int child) {
            for (int mark = 0; mark < made; mark++) {
                if (isTurned(mark, child)) {
                    return mark;
                }
            }
            return NOT;
        }

        private boolean isTurned(int mark, int child) {
            if (!isToldOf(mark, child)) {
                return false;
            }
            for (int other = 0; other < made; other++) {
                if (isToldOf(other, child) && monthOf(other) < monthOf(mark)
                        && heightOf(mark) <= heightOf(other)) {
                    return true;
                }
            }
            return false;
        }

        private boolean isToldOf(int mark, int child) {
            return nameOf(mark) == child && monthOf(mark) != NO_MONTH;
        }
    }

    /** OFF, WHOSE, ODDS, HOW, ALL TOGETHER: MARKS beside the HEIGHTS of CHILDREN. */
    private static final class Guesses {
        private static final int MOST_SHARED = 4;
        private static final int WAY_IS_WRONG = 32;

        private final Family family;
        private final Marks marks;
        private int foundChild = -1;
        private int foundMonth = -1;
        private int foundDistance = 0;
        private final int[] gathered = new int[MOST_SHARED];
        private int gatheredCount = 0;
        private final int[] tried = new int[MOST_SHARED];
        private final int[] shared = new int[MOST_SHARED];
        private int sharedSum = 0;

        Guesses(Family family, Marks marks) {
            this.family = family;
            this.marks = marks;
        }

        int foundChild() {
            return foundChild;
        }

        int foundMonth() {
            return foundMonth;
        }

        int foundDistance() {
            return foundDistance;
        }

        /** OFF of a HEIGHT that was marked; NOT: the CHILD is not BORN. */
        int distance(int marked, int child, int month, int way) {
            if (!family.isBorn(child, month)) {
                return NOT;
            }
            return Math.abs(marked - made(family.heightAt(child, month), way));
        }

        private static int made(int height, int way) {
            switch (way) {
                case 1: return height + 48;
                case 2: return height + 128;
                case 3: return Math.max(0, height - 24);
                case 4: return (height + INCH / 2) / INCH * INCH;
                default: return height;
            }
        }

        /** Finds WHOSE a MARK is; tells whether one is BORN. */
        boolean findFor(int mark) {
            return find(marks.heightOf(mark), marks.nameOf(mark), marks.monthOf(mark), marks.wayOf(mark));
        }

        private boolean find(int marked, int name, int month, int way) {
            foundChild = -1;
            int firstMonth = isMonth(month) ? month : 0;
            int lastMonth = isMonth(month) ? month : LAST_MONTH;
            int firstChild = family.has(name) ? name : 0;
            int lastChild = family.has(name) ? name : family.size() - 1;
            for (int m = firstMonth; m <= lastMonth; m++) {
                for (int child = firstChild; child <= lastChild; child++) {
                    int distance = distance(marked, child, m, way);
                    if (distance != NOT && (foundChild < 0 || distance < foundDistance)) {
                        foundChild = child;
                        foundMonth = m;
                        foundDistance = distance;
                    }
                }
            }
            return foundChild >= 0;
        }

        int leadingTo(int child) {
            int sum = 0;
            for (int mark = 0; mark < marks.size(); mark++) {
                if (findFor(mark) && foundChild == child) {
                    sum++;
                }
            }
            return sum;
        }

        int chance(int mark, int child) {
            int its = 0;
            int all = 0;
            for (int each = 0; each < family.size(); each++) {
                int weight = weight(mark, each);
                all += weight;
                if (each == child) {
                    its = weight;
                }
            }
            return all == 0 ? NOT : 1000 * its / all;
        }

        private int weight(int mark, int child) {
            int name = marks.nameOf(mark);
            int month = marks.monthOf(mark);
            if (!isMonth(month) || family.has(name) && name != child) {
                return 0;
            }
            int distance = distance(marks.heightOf(mark), child, month, marks.wayOf(mark));
            return distance < 0 ? 0 : 10000 / (1 + distance);
        }

        /** HOW of the MARK for which findFor() was asked. */
        int likeliestWay(int mark) {
            int best = 0;
            for (int way = 1; way <= LAST_WAY; way++) {
                if (foundDistanceBy(mark, way) < foundDistanceBy(mark, best)) {
                    best = way;
                }
            }
            return best;
        }

        int wrongWay(int mark) {
            int least = foundDistanceBy(mark, likeliestWay(mark));
            return foundDistanceBy(mark, marks.wayOf(mark)) - least >= WAY_IS_WRONG ? 1 : 0;
        }

        private int foundDistanceBy(int mark, int way) {
            return distance(marks.heightOf(mark), foundChild, foundMonth, way);
        }

        /** Gathers the MARKS of a MONTH that go ALL TOGETHER: how many. */
        int gather(int month) {
            gatheredCount = 0;
            for (int mark = 0; mark < marks.size() && gatheredCount < MOST_SHARED; mark++) {
                if (marks.monthOf(mark) == month && marks.nameOf(mark) == NO_NAME) {
                    gathered[gatheredCount] = mark;
                    gatheredCount++;
                }
            }
            return gatheredCount;
        }

        /** Gives each gathered MARK its CHILD; tells whether there are CHILDREN enough. */
        boolean shareOut(int month) {
            int rows = 1;
            for (int k = 0; k < gatheredCount; k++) {
                rows *= family.size();
            }
            boolean found = false;
            for (int row = 0; row < rows; row++) {
                int sum = sumOfRow(row, month);
                if (sum != NOT && (!found || sum < sharedSum)) {
                    found = true;
                    sharedSum = sum;
                    System.arraycopy(tried, 0, shared, 0, MOST_SHARED);
                }
            }
            return found;
        }

        // Rows are counted with the first MARK's CHILD as the highest digit: so they come in the
        // order by which the first of like ones is to be taken.
        private int sumOfRow(int row, int month) {
            int base = Math.max(1, family.size());
            int rest = row;
            int sum = 0;
            for (int k = Math.min(gatheredCount, MOST_SHARED) - 1; k >= 0; k--) {
                int child = rest % base;
                rest /= base;
                int mark = gathered[k];
                int distance = distance(marks.heightOf(mark), child, month, marks.wayOf(mark));
                if (distance == NOT || isTriedBehind(k, child)) {
                    return NOT;
                }
                tried[k] = child;
                sum += distance;
            }
            return sum;
        }

        private boolean isTriedBehind(int place, int child) {
            for (int k = Math.max(-1, place) + 1; k < gatheredCount && k < MOST_SHARED; k++) {
                if (tried[k] == child) {
                    return true;
                }
            }
            return false;
        }

        int sharedSum() {
            return sharedSum;
        }

        int sharedChild(int i) {
            return 0 <= i && i < gatheredCount && i < MOST_SHARED ? shared[i] : BAD;
        }

        int slipsFound(int child, int month, int seed, int n, int most) {
            int height = family.heightAt(child, month);
            int span = Math.max(1, 2 * most + 1);
            int z = seed;
            int sum = 0;
            for (int k = 0; k < n; k++) {
                z = z * 1103515245 + 12345;
                int slip = (z >>> 8) % span - most;
                if (find(height + slip, NO_NAME, month, 0) && foundChild == child) {
                    sum++;
                }
            }
            return sum;
        }
    }

    /** How tall CHILDREN become, and along which way. */
    private static final class Outlook {
        private static final int GROWN_UP = 240, TWO_YEARS = 24, YEAR = 12, YEARS = 20;
        private static final int SEX_APART = 160;
        private static final int FALL = 2;

        private final Family family;

        Outlook(Family family) {
            this.family = family;
        }

        int endMonth(int child) {
            return Math.min(family.bornIn(child) + GROWN_UP, LAST_MONTH);
        }

        int endOf(int child) {
            return family.heightAt(child, endMonth(child));
        }

        int twiceAtTwo(int child) {
            int month = family.bornIn(child) + TWO_YEARS;
            return isMonth(month) ? 2 * family.heightAt(child, month) : NOT;
        }

        int byParents(int child) {
            int parents = family.told(child, 4);
            return family.told(child, 1) == 1 ? parents + SEX_APART : parents - SEX_APART;
        }

        /** The first year of most (or of least) growth; NOT: no whole year is there. */
        int yearOf(int child, boolean most) {
            int best = NOT;
            for (int year = 0; year < YEARS && isWholeYear(child, year); year++) {
                if (best == NOT || isBetter(growthInYear(child, year), growthInYear(child, best), most)) {
                    best = year;
                }
            }
            return best;
        }

        private static boolean isBetter(int growth, int than, boolean most) {
            return most ? growth > than : growth < than;
        }

        private boolean isWholeYear(int child, int year) {
            return isMonth(family.bornIn(child) + YEAR * (year + 1));
        }

        int growthInYear(int child, int year) {
            int start = family.bornIn(child) + YEAR * year;
            return family.heightAt(child, start + YEAR) - family.heightAt(child, start);
        }

        /** LINE of a CHILD that is BORN. */
        int lineAt(int child, int month) {
            int model = family.modelHeightAt(child, month);
            return model == 0 ? 0 : (100 * family.heightAt(child, month) / model - 100) / 4;
        }

        int firstFall(int child) {
            int born = family.bornIn(child);
            int greatest = lineAt(child, born);
            for (int month = born + 1; month < MONTHS; month++) {
                int line = lineAt(child, month);
                if (greatest - line >= FALL) {
                    return month;
                }
                greatest = Math.max(greatest, line);
            }
            return NOT;
        }

        int firstOvertaking(int one, int other) {
            int bothBorn = Math.max(family.bornIn(one), family.bornIn(other));
            for (int month = bothBorn + 1; month < MONTHS; month++) {
                if (isHigher(one, other, month) && !isHigher(one, other, month - 1)) {
                    return month;
                }
            }
            return NOT;
        }

        private boolean isHigher(int one, int other, int month) {
            return family.heightAt(one, month) > family.heightAt(other, month);
        }
    }

    /** Mends, and keeps what was mended, to undo it and do it again. */
    private static final class Changes {
        static final int HEIGHT = 0, WAY = 1, LATE = 2, PARENTS = 3;
        private static final int MOST_KEPT = 40;

        private final Family family;
        private final Marks marks;
        private final int[] numbers = new int[MOST_KEPT];
        private final int[] whats = new int[MOST_KEPT];
        private final int[] befores = new int[MOST_KEPT];
        private final int[] afters = new int[MOST_KEPT];
        private int done = 0;
        private int kept = 0;

        Changes(Family family, Marks marks) {
            this.family = family;
            this.marks = marks;
        }

        int toUndo() {
            return done;
        }

        int toRedo() {
            return kept - done;
        }

        /** Tells a number anew: what it was. */
        int change(int number, int what, int v) {
            int before = valueOf(number, what);
            if (before != v) {
                become(number, what, v);
                remember(number, what, before, v);
            }
            return before;
        }

        private int valueOf(int number, int what) {
            switch (what) {
                case HEIGHT: return marks.heightOf(number);
                case WAY: return marks.wayOf(number);
                case LATE: return family.told(number, 3);
                case PARENTS: return family.told(number, 4);
                default: return VOID;
            }
        }

        private void become(int number, int what, int v) {
            switch (what) {
                case HEIGHT:
                    marks.becomeHeight(number, v);
                    break;
                case WAY:
                    marks.becomeWay(number, v);
                    break;
                case LATE:
                    family.becomeLate(number, v);
                    break;
                case PARENTS:
                    family.becomeParents(number, v);
                    break;
                default:
                    break;
            }
        }

        private void remember(int number, int what, int before, int after) {
            if (done >= MOST_KEPT) {
                dropOldest();
            }
            numbers[done] = number;
            whats[done] = what;
            befores[done] = before;
            afters[done] = after;
            done++;
            kept = done;
        }

        private void dropOldest() {
            done = MOST_KEPT - 1;
            System.arraycopy(numbers, 1, numbers, 0, done);
            System.arraycopy(whats, 1, whats, 0, done);
            System.arraycopy(befores, 1, befores, 0, done);
            System.arraycopy(afters, 1, afters, 0, done);
        }

        void goBack() {
            if (done > 0) {
                done--;
                become(numbers[done], whats[done], befores[done]);
            }
        }

        void goForward() {
            if (done < kept && done < MOST_KEPT) {
                become(numbers[done], whats[done], afters[done]);
                done++;
            }
        }
    }

    /** BODIES, their ACTS and THE TRACE. */
    private static final class Acts {
        static final int MOST_BODIES = 50;
        private static final int KINDS = 8, ACTS = 4;
        private static final int GROWS = 0, STANDS = 1, MARKS = 2, TELLS = 3;
        private static final int TRACE_KEPT = 24;
        // No ACT of the document goes beyond nine; this only holds the recursion.
        private static final int MOST_DEEP = 40;

        private static final int[] ABOVE = {-1, 0, 0, 1, 0, 4, 3, 2};

        // By KIND, then ACT: the number of its own body; 0: it has none. What MARK has from its
        // interfaces stands with it: nothing is above MARK that could come between.
        private static final int[] OWN_BODIES = {
            1, 10, 11, 2,
            20, 0, 0, 0,
            0, 30, 0, 0,
            0, 41, 40, 0,
            0, 0, 50, 0,
            0, 0, 0, 60,
            70, 0, 0, 0,
            0, 80, 0, 81
        };

        private final int[] kinds = new int[MOST_BODIES];
        private int bodies = 0;
        private final int[] ran = new int[TRACE_KEPT];
        private int ranCount = 0;
        private int actor = 0;
        private int actorKind = 0;

        static boolean isKind(int kind) {
            return within(kind, 0, KINDS - 1);
        }

        static boolean isUnder(int kind, int top) {
            int at = kind;
            for (int n = 0; n < KINDS && isKind(at); n++) {
                if (at == top) {
                    return true;
                }
                at = ABOVE[at];
            }
            return false;
        }

        int size() {
            return bodies;
        }

        boolean has(int body) {
            return 0 <= body && body < bodies;
        }

        int add(int kind) {
            if (bodies >= MOST_BODIES) {
                return FULL;
            }
            kinds[bodies] = kind;
            bodies++;
            return bodies - 1;
        }

        int kindOf(int body) {
            return has(body) ? kinds[body] : BAD;
        }

        int ranInAll() {
            return ranCount;
        }

        int ranAt(int i) {
            return 0 <= i && i < ranCount && i < TRACE_KEPT ? ran[i] : BAD;
        }

        int start(int body, int act, int x) {
            ranCount = 0;
            if (!has(body) || !within(act, 0, ACTS - 1)) {
                return 0;
            }
            actor = body;
            actorKind = kindOf(body);
            return run(act, actorKind, x, 0);
        }

        /** Runs the body of an ACT that a KIND has, or else the next KIND above it. */
        private int run(int act, int kind, int x, int depth) {
            int owner = ownerOf(act, kind);
            if (owner < 0 || depth > MOST_DEEP) {
                return 0;
            }
            int body = ownBody(act, owner);
            note(body);
            return perform(body, ABOVE[owner], x, depth + 1);
        }

        private int perform(int body, int above, int x, int depth) {
            switch (body) {
                case 1: return x + actor;
                case 2: return run(STANDS, actorKind, x, depth) - run(MARKS, actorKind, 1, depth);
                case 10: return run(GROWS, actorKind, x, depth) * 2;
                case 11: return x ^ actor;
                case 20: return run(GROWS, above, x, depth) + 3;
                case 30: return -run(STANDS, above, x, depth);
                case 40: return run(MARKS, above, x, depth) * 3;
                case 41: return run(STANDS, above, x + 1, depth);
                case 50: return run(MARKS, above, x, depth) - run(GROWS, actorKind, 2, depth);
                case 60: return run(TELLS, above, x, depth) ^ 5;
                case 70: return run(GROWS, above, x, depth) * 2;
                case 80: return run(STANDS, above, x, depth) + run(MARKS, actorKind, 2, depth);
                case 81: return run(TELLS, above, x, depth) - 1;
                default: return 0;
            }
        }

        private static int ownerOf(int act, int kind) {
            int at = kind;
            for (int n = 0; n < KINDS && isKind(at) && ownBody(act, at) == 0; n++) {
                at = ABOVE[at];
            }
            return isKind(at) ? at : -1;
        }

        private static int ownBody(int act, int kind) {
            int place = kind * ACTS + act;
            return 0 <= place && place < OWN_BODIES.length ? OWN_BODIES[place] : 0;
        }

        private void note(int body) {
            if (ranCount < TRACE_KEPT) {
                ran[ranCount] = body;
            }
            ranCount++;
        }
    }

    /** SHELVES: each keeps room for a ROW of longs, whatever its sort, so that none is made later. */
    private static final class Shelves {
        static final int MOST_ELEMENTS = 60;
        private static final int SHELVES = 6;
        private static final int BYTES = 0, SHORTS = 1, INTS = 2, LONGS = 3, BOOLEANS = 4;
        private static final int NO_BODY = -1, NO_ROW = -1;

        private final int[] bodies = new int[SHELVES];
        private final int[] sorts = new int[SHELVES];
        private final int[] sizes = new int[SHELVES];
        private final long[][] elements = new long[SHELVES][MOST_ELEMENTS];

        Shelves() {
            for (int shelf = 0; shelf < SHELVES; shelf++) {
                bodies[shelf] = NO_BODY;
                sorts[shelf] = NO_ROW;
            }
        }

        static boolean isSort(int sort) {
            return within(sort, BYTES, BOOLEANS);
        }

        boolean has(int shelf) {
            return 0 <= shelf && shelf < SHELVES;
        }

        boolean holdsRow(int shelf) {
            return has(shelf) && sorts[shelf] != NO_ROW;
        }

        boolean holdsShorts(int shelf) {
            return has(shelf) && sorts[shelf] == SHORTS;
        }

        boolean holdsNothing(int shelf) {
            return has(shelf) && sorts[shelf] == NO_ROW && bodies[shelf] == NO_BODY;
        }

        int bodyOn(int shelf) {
            return has(shelf) ? bodies[shelf] : NO_BODY;
        }

        void holdBody(int shelf, int body) {
            if (has(shelf)) {
                bodies[shelf] = body;
                sorts[shelf] = NO_ROW;
                sizes[shelf] = 0;
            }
        }

        void holdRow(int shelf, int sort, int n) {
            if (!has(shelf) || !within(n, 0, MOST_ELEMENTS)) {
                return;
            }
            bodies[shelf] = NO_BODY;
            sorts[shelf] = sort;
            sizes[shelf] = n;
            for (int i = 0; i < MOST_ELEMENTS; i++) {
                elements[shelf][i] = 0;
            }
        }

        boolean areAlike(int shelf, int other) {
            return has(shelf) && has(other) && sorts[shelf] == sorts[other];
        }

        /** Whether n elements from a place on are all there (a SHELF without a ROW has none). */
        boolean hasPlaces(int shelf, int from, int n) {
            return has(shelf) && from >= 0 && n >= 0 && from <= sizes[shelf] && n <= sizes[shelf] - from;
        }

        long get(int shelf, int i) {
            return hasPlaces(shelf, i, 1) ? elements[shelf][i] : 0;
        }

        void set(int shelf, int i, long v) {
            if (hasPlaces(shelf, i, 1)) {
                elements[shelf][i] = lowestBits(sorts[shelf], v);
            }
        }

        private static long lowestBits(int sort, long v) {
            switch (sort) {
                case BYTES: return (byte) v;
                case SHORTS: return (short) v;
                case INTS: return (int) v;
                case LONGS: return v;
                case BOOLEANS: return v != 0 ? 1 : 0;
                default: return 0;
            }
        }

        void move(int shelf, int i, int other, int j, int n) {
            if (hasPlaces(shelf, i, n) && hasPlaces(other, j, n)) {
                System.arraycopy(elements[shelf], i, elements[other], j, n);
            }
        }
    }
}
