import java.util.Arrays;

/**
 * A search for truths: clauses over variables, assumptions, what can be true at once, and the least
 * way to make it so; it learns from what goes wrong, and each lesson is checked.
 *
 * <p>Inside, a literal is a code: twice its variable's number, and one more if it is the denial. So
 * a code with its lowest bit turned over is the code of the denial.
 */
public final class ClauseSearch {
    private static final int MOST_VARIABLES = 400;
    private static final int MOST_CLAUSES = 4000;
    private static final int MOST_IN_ROW = 20;
    private static final int CODES = 2 * MOST_VARIABLES + 2;
    private static final int NONE = -1;
    private static final int UNKNOWN = 0;
    private static final int YES = 1;
    private static final int NO = 2;

    private final int[] row;
    private final Rows clauses;
    private final Search search;
    private final boolean[] way;
    private int rowSize;
    private int variableCount;
    private boolean wayStands;
    private int badWays;

    public ClauseSearch() {
        row = new int[MOST_IN_ROW];
        clauses = new Rows();
        search = new Search(new Rows(), new Trail());
        way = new boolean[MOST_VARIABLES + 1];
    }

    public int variables(int n) throws IllegalArgumentException, IndexOutOfBoundsException {
        if (n < 1 || n > MOST_VARIABLES) {
            throw new IllegalArgumentException("1 to 400 variables come at once");
        }
        if (variableCount + n > MOST_VARIABLES) {
            throw new IndexOutOfBoundsException("there would be more than 400 variables");
        }
        variableCount += n;
        wayStands = false;
        return variableCount;
    }

    public int give(int l) throws IllegalArgumentException, IndexOutOfBoundsException {
        if (l == 0 || l > variableCount || l < -variableCount) {
            throw new IllegalArgumentException("no literal of a variable that there is");
        }
        if (rowSize >= MOST_IN_ROW) {
            throw new IndexOutOfBoundsException("the row has 20 literals");
        }
        row[rowSize] = l > 0 ? 2 * l : 1 - 2 * l;
        rowSize++;
        return rowSize;
    }

    public int clause() throws IllegalStateException, IndexOutOfBoundsException {
        if (rowSize == 0) {
            throw new IllegalStateException("the row is empty");
        }
        if (clauses.size >= MOST_CLAUSES) {
            throw new IndexOutOfBoundsException("there are 4000 clauses");
        }
        clauses.add(row, rowSize, Rows.GIVEN);
        search.take(row, rowSize);
        rowSize = 0;
        wayStands = false;
        return clauses.size;
    }

    public boolean solve() {
        wayStands = search.findLeast(variableCount, row, rowSize) && takeWay();
        rowSize = 0;
        return wayStands;
    }

    public boolean value(int v) throws IllegalArgumentException, IllegalStateException {
        if (v < 1 || v > variableCount) {
            throw new IllegalArgumentException("no variable has this number");
        }
        if (!wayStands) {
            throw new IllegalStateException("no way stands that could be asked");
        }
        return way[v];
    }

    public int count(int what) throws IllegalArgumentException {
        switch (what) {
            case 0:
                return variableCount;
            case 1:
                return clauses.size;
            case 2:
                return rowSize;
            case 3:
                return wayStands ? 1 : 0;
            case 4:
                return search.badLessons;
            case 5:
                return badWays;
            default:
                throw new IllegalArgumentException("what is counted is 0 to 5");
        }
    }

    /** Takes the way that the search found, and answers whether it is good. */
    private boolean takeWay() {
        search.tellWay(way, variableCount);
        if (wayIsGood()) {
            return true;
        }
        badWays++;
        return false;
    }

    /** Looks at the clauses as they were given, so that a fault in the search's own rows shows. */
    private boolean wayIsGood() {
        for (int i = 0; i < rowSize; i++) {
            if (!isTrue(row[i])) {
                return false;
            }
        }
        for (int r = 0; r < clauses.size; r++) {
            if (!hasTrue(r)) {
                return false;
            }
        }
        return true;
    }

    private boolean hasTrue(int r) {
        int end = clauses.start[r + 1];
        for (int i = clauses.start[r]; i < end; i++) {
            if (isTrue(clauses.codes[i])) {
                return true;
            }
        }
        return false;
    }

    private boolean isTrue(int code) {
        return way[code >> 1] == ((code & 1) == 0);
    }

    /** Rows of codes, one behind the other in one array, so that no row is an object of its own. */
    private static final class Rows {
        private static final int GIVEN = 0;
        private static final int LESSON = 1;

        private int[] start;
        private int[] kind;
        private int[] codes;
        private int size;

        Rows() {
            start = new int[64];
            kind = new int[64];
            codes = new int[256];
        }

        void add(int[] from, int length, int ofKind) {
            int end = start[size] + length;
            if (size + 1 >= start.length) {
                start = Arrays.copyOf(start, 2 * start.length);
                kind = Arrays.copyOf(kind, 2 * kind.length);
            }
            if (end > codes.length) {
                codes = Arrays.copyOf(codes, 2 * end);
            }
            System.arraycopy(from, 0, codes, start[size], length);
            kind[size] = ofKind;
            size++;
            start[size] = end;
        }

        /** Row r takes the place of a row that is not needed any more, or stays where it is. */
        void moveDown(int r, int place) {
            int length = start[r + 1] - start[r];
            System.arraycopy(codes, start[r], codes, start[place], length);
            kind[place] = kind[r];
            start[place + 1] = start[place] + length;
        }
    }

    /**
     * The truths so far, in the order in which they came. A level is a truth that was tried and all
     * that it forced; level 0 is what is forced without any try.
     */
    private static final class Trail {
        private final byte[] truth;
        private final int[] order;
        private final int[] levelOf;
        private final int[] reason;
        private final int[] levelStart;
        private int size;
        private int followed;
        private int level;
        private int lowest;

        Trail() {
            truth = new byte[CODES];
            order = new int[MOST_VARIABLES + 1];
            levelOf = new int[MOST_VARIABLES + 1];
            reason = new int[MOST_VARIABLES + 1];
            levelStart = new int[MOST_VARIABLES + 2];
            lowest = 1;
        }

        void put(int code, int because) {
            truth[code] = YES;
            truth[code ^ 1] = NO;
            levelOf[code >> 1] = level;
            reason[code >> 1] = because;
            order[size] = code;
            size++;
        }

        void tryOut(int code) {
            level++;
            levelStart[level] = size;
            put(code, NONE);
        }

        void backTo(int lower) {
            if (lower < level) {
                shrink(levelStart[lower + 1]);
                level = lower;
            }
        }

        void clear() {
            shrink(0);
            level = 0;
        }

        private void shrink(int newSize) {
            for (; size > newSize; size--) {
                int code = order[size - 1];
                truth[code] = UNKNOWN;
                truth[code ^ 1] = UNKNOWN;
                lowest = Math.min(lowest, code >> 1);
            }
            followed = Math.min(followed, size);
        }

        /** The lowest variable without a truth, or one that is above them all. */
        int lowestUnknown(int variables) {
            while (lowest <= variables && truth[2 * lowest] != UNKNOWN) {
                lowest++;
            }
            return lowest;
        }
    }

    /**
     * Each row waits for its first two codes: only when one of them becomes false can the row force
     * something. Node 2r is row r's first code, node 2r + 1 its second; the nodes of the rows that
     * wait for the same code form a chain.
     */
    private static final class Watch {
        private final Rows rows;
        private final Trail trail;
        private final int[] head;
        private int[] next;

        Watch(Rows rows, Trail trail) {
            this.rows = rows;
            this.trail = trail;
            head = new int[CODES];
            next = new int[128];
            Arrays.fill(head, NONE);
        }

        void add(int r) {
            if (2 * r + 1 >= next.length) {
                next = Arrays.copyOf(next, 2 * next.length);
            }
            hang(2 * r, rows.codes[rows.start[r]]);
            hang(2 * r + 1, rows.codes[rows.start[r] + 1]);
        }

        void renew() {
            Arrays.fill(head, NONE);
            for (int r = 0; r < rows.size; r++) {
                add(r);
            }
        }

        private void hang(int node, int code) {
            next[node] = head[code];
            head[code] = node;
        }

        /** Puts all that is forced on the trail; answers a row that has become false, or NONE. */
        int follow() {
            for (int left = MOST_VARIABLES; left > 0 && trail.followed < trail.size; left--) {
                int bad = visit(trail.order[trail.followed] ^ 1);
                if (bad != NONE) {
                    return bad;
                }
                trail.followed++;
            }
            return NONE;
        }

        /** Goes to all rows that wait for a code that has become false. */
        private int visit(int code) {
            int node = head[code];
            int bad = NONE;
            head[code] = NONE;
            for (int left = 2 * rows.size; left > 0 && node != NONE; left--) {
                int after = next[node];
                if (bad != NONE) {
                    hang(node, code);
                } else if (!waitsElsewhere(node)) {
                    hang(node, code);
                    bad = force(node);
                }
                node = after;
            }
            return bad;
        }

        private int otherCode(int node) {
            return rows.codes[rows.start[node >> 1] + 1 - (node & 1)];
        }

        /** Lets the node wait for another code of its row that is not false, if there is need and one. */
        private boolean waitsElsewhere(int node) {
            if (trail.truth[otherCode(node)] == YES) {
                return false;
            }
            int[] codes = rows.codes;
            int first = rows.start[node >> 1];
            int end = rows.start[(node >> 1) + 1];
            for (int i = first + 2; i < end; i++) {
                int code = codes[i];
                if (trail.truth[code] != NO) {
                    codes[i] = codes[first + (node & 1)];
                    codes[first + (node & 1)] = code;
                    hang(node, code);
                    return true;
                }
            }
            return false;
        }

        private int force(int node) {
            int code = otherCode(node);
            if (trail.truth[code] == NO) {
                return node >> 1;
            }
            if (trail.truth[code] == UNKNOWN) {
                trail.put(code, node >> 1);
            }
            return NONE;
        }
    }

    /**
     * What follows from a row that has become false: it is joined with the rows that forced its codes
     * until one code alone is left of the last level. That one stands first; it would have been
     * forced already on the level of the second.
     */
    private static final class Lesson {
        private final Rows rows;
        private final Trail trail;
        private final boolean[] seen;
        private final int[] codes;
        private final int[] used;
        private int size;
        private int usedSize;
        private int open;

        Lesson(Rows rows, Trail trail) {
            this.rows = rows;
            this.trail = trail;
            seen = new boolean[MOST_VARIABLES + 1];
            codes = new int[MOST_VARIABLES + 1];
            used = new int[MOST_VARIABLES + 1];
        }

        void learnFrom(int bad) {
            size = 1;
            usedSize = 0;
            open = 0;
            join(bad);
            for (int i = trail.size - 1; i >= 0 && open > 0; i--) {
                int variable = trail.order[i] >> 1;
                if (seen[variable]) {
                    open--;
                    if (open > 0) {
                        join(trail.reason[variable]);
                    } else {
                        codes[0] = trail.order[i] ^ 1;
                    }
                    seen[variable] = false;
                }
            }
            finish();
        }

        /** A code whose variable is seen is in the lesson already, or is the one that r forced. */
        private void join(int r) {
            used[usedSize] = r;
            usedSize++;
            for (int i = rows.start[r]; i < rows.start[r + 1]; i++) {
                int code = rows.codes[i];
                if (!seen[code >> 1]) {
                    seen[code >> 1] = true;
                    if (trail.levelOf[code >> 1] == trail.level) {
                        open++;
                    } else {
                        codes[size] = code;
                        size++;
                    }
                }
            }
        }

        private void finish() {
            for (int i = 1; i < size; i++) {
                seen[codes[i] >> 1] = false;
                if (trail.levelOf[codes[i] >> 1] > trail.levelOf[codes[1] >> 1]) {
                    int code = codes[i];
                    codes[i] = codes[1];
                    codes[1] = code;
                }
            }
        }

        int levelToGoBackTo() {
            return size > 1 ? trail.levelOf[codes[1] >> 1] : 0;
        }
    }

    /** Proves lessons anew, from the rows alone: it looks at no truth that the search holds. */
    private static final class Check {
        private static final int SEVERAL = -2;

        private final Rows rows;
        private final Trail trail;

        Check(Rows rows) {
            this.rows = rows;
            trail = new Trail();
        }

        /** Denies the lesson and lets the rows it came from, last first, force codes until one is false. */
        boolean follows(Lesson lesson) {
            trail.clear();
            for (int i = 0; i < lesson.size; i++) {
                trail.put(lesson.codes[i] ^ 1, NONE);
            }
            for (int i = lesson.usedSize - 1; i >= 0; i--) {
                int code = onlyCodeLeft(lesson.used[i]);
                if (code == NONE) {
                    return true;
                }
                if (code == SEVERAL) {
                    return false;
                }
                trail.put(code, NONE);
            }
            return false;
        }

        /** The code that row r forces; NONE if all are false, SEVERAL if nothing is forced. */
        private int onlyCodeLeft(int r) {
            int found = NONE;
            for (int i = rows.start[r]; i < rows.start[r + 1]; i++) {
                int code = rows.codes[i];
                if (trail.truth[code] != NO) {
                    if (found != NONE || trail.truth[code] == YES) {
                        return SEVERAL;
                    }
                    found = code;
                }
            }
            return found;
        }
    }

    /**
     * Tries the assumed codes first, then always the denial of the lowest variable without a truth.
     * So a variable that comes out true was forced by the assumed codes and denials of lower
     * variables, and the first way found is the least.
     */
    private static final class Search {
        // Each step tries a code or learns, and no state of the trail comes twice, so the search ends by
        // itself. 512 calls can ask for more than two million steps: the bound is far above that.
        private static final long MOST_STEPS = 1L << 40;
        private static final int MOST_LESSONS = 1000;

        private final Rows rows;
        private final Trail trail;
        private final Watch watch;
        private final Lesson lesson;
        private final Check check;
        private final int[] plain;
        private final int[] facts;
        private final boolean[] isFact;
        private int factCount;
        private int lessonCount;
        private int badLessons;
        private boolean hopeless;

        Search(Rows rows, Trail trail) {
            this.rows = rows;
            this.trail = trail;
            watch = new Watch(rows, trail);
            lesson = new Lesson(rows, trail);
            check = new Check(rows);
            plain = new int[MOST_IN_ROW];
            facts = new int[CODES];
            isFact = new boolean[CODES];
        }

        void take(int[] codes, int length) {
            int size = 0;
            for (int i = 0; i < length; i++) {
                if (has(codes, length, codes[i] ^ 1)) {
                    return;
                }
                if (!has(plain, size, codes[i])) {
                    plain[size] = codes[i];
                    size++;
                }
            }
            keep(plain, size, Rows.GIVEN);
        }

        private boolean has(int[] codes, int length, int code) {
            for (int i = 0; i < length; i++) {
                if (codes[i] == code) {
                    return true;
                }
            }
            return false;
        }

        /** Answers the number of the new row, or NONE if it is a single code, which is a fact. */
        private int keep(int[] codes, int length, int kind) {
            if (length > 1) {
                rows.add(codes, length, kind);
                watch.add(rows.size - 1);
                return rows.size - 1;
            }
            if (!isFact[codes[0]]) {
                isFact[codes[0]] = true;
                facts[factCount] = codes[0];
                factCount++;
            }
            return NONE;
        }

        boolean findLeast(int variables, int[] assumed, int length) {
            trail.clear();
            putFacts();
            for (long step = 0; step < MOST_STEPS && !hopeless; step++) {
                int bad = watch.follow();
                if (bad != NONE) {
                    goBackWiser(bad);
                } else {
                    int code = codeToTry(variables, assumed, length);
                    if (code == NONE) {
                        return true;
                    }
                    if (trail.truth[code] == NO) {
                        return false;
                    }
                    trail.tryOut(code);
                }
            }
            return false;
        }

        private void putFacts() {
            for (int i = 0; i < factCount; i++) {
                if (trail.truth[facts[i]] == NO) {
                    hopeless = true;
                } else if (trail.truth[facts[i]] == UNKNOWN) {
                    trail.put(facts[i], NONE);
                }
            }
        }

        /** An assumed code that is not true yet, else a denial; NONE if every variable has a truth. */
        private int codeToTry(int variables, int[] assumed, int length) {
            for (int i = 0; i < length; i++) {
                if (trail.truth[assumed[i]] != YES) {
                    return assumed[i];
                }
            }
            int v = trail.lowestUnknown(variables);
            return v > variables ? NONE : 2 * v + 1;
        }

        /** On level 0 nothing was tried, not even what is assumed: then no way will ever be good. */
        private void goBackWiser(int bad) {
            if (trail.level == 0) {
                hopeless = true;
                return;
            }
            lesson.learnFrom(bad);
            if (!check.follows(lesson)) {
                badLessons++;
            }
            trail.backTo(lesson.levelToGoBackTo());
            if (lessonCount >= MOST_LESSONS) {
                forgetOld();
            }
            trail.put(lesson.codes[0], keep(lesson.codes, lesson.size, Rows.LESSON));
            lessonCount += lesson.size > 1 ? 1 : 0;
        }

        /** Drops the older half of the lessons, but for those that are the reason of a truth. */
        private void forgetOld() {
            int toDrop = lessonCount / 2;
            int place = 0;
            for (int r = 0; r < rows.size; r++) {
                int variable = forcedBy(r);
                if (rows.kind[r] == Rows.LESSON && variable == NONE && toDrop > 0) {
                    toDrop--;
                    lessonCount--;
                } else {
                    if (variable != NONE) {
                        trail.reason[variable] = place;
                    }
                    rows.moveDown(r, place);
                    place++;
                }
            }
            rows.size = place;
            watch.renew();
        }

        /** A row forces none but one of the two codes that it waits for. */
        private int forcedBy(int r) {
            for (int i = rows.start[r]; i < rows.start[r] + 2; i++) {
                int code = rows.codes[i];
                if (trail.truth[code] == YES && trail.reason[code >> 1] == r) {
                    return code >> 1;
                }
            }
            return NONE;
        }

        void tellWay(boolean[] way, int variables) {
            for (int v = 1; v <= variables; v++) {
                way[v] = trail.truth[2 * v] == YES;
            }
        }
    }
}
