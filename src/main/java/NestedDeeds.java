/** An archive of deeds that enclose and share other deeds; ../shared/DOC.md says what each call answers. */
public final class NestedDeeds {
    public static final int NONE = -1, BAD = -2, ELDER = -3, FULL = -4, SPENT = -5, DEEP = -6;

    private static final int LEAST_INT = -2147483648, GREATEST_INT = 2147483647;

    private static final int KINDS = 12;
    private static final int LEAF = 0, SUM = 1, PRODUCT = 2, LESS = 3, GREATEST = 4, LEAST = 5;
    private static final int TURN = 6, CHOICE = 7, FIRST = 8, LIKE = 9, BITS = 10, SIZE = 11;

    private static final int BY_CALLS = 0, BY_STACK = 1, BY_STEPS = 2, BY_BOTH = 3;

    private static final int MOST_DEEDS = 1500;
    private static final int MOST_PARTS = 4000;
    private static final int MOST_BYTES = 6000;
    private static final int MOST_VISITS = 20000;
    private static final int MOST_METER = 300;
    private static final int MOST_CHAINED = 400;
    private static final int MOST_TIMES = 4;
    private static final int MOST_FED = 8;
    private static final int MOST_FIGURES = 10;

    /** Parts are elder than what they are parts of, so no depth is above the number of deeds. */
    private static final int DEPTHS = MOST_DEEDS + 2;

    /** THE METER goes up to 300, but the language keeps open calls under that: a stack takes the rest. */
    private static final int MOST_OWN_CALLS = 250;

    /** A visit is looked for, made, looked behind, closed and taken up: five steps; the rest is slack. */
    private static final int MOST_STEPS = 10 * MOST_VISITS;

    private static final int PLACE_BASE = -10;

    private final Deeds deeds;
    private final Paper paper;
    private final Paper draft;
    private final Reader reader;
    private final Walker walker;
    private final long[] reckoned;
    private final Task visiting;
    private final Weighing weighing;
    private final Marking marking;
    private final Comparing comparing;
    private final Writing writing;
    private final Finding finding;
    private final Copying copying;

    public NestedDeeds() {
        deeds = new Deeds();
        paper = new Paper();
        draft = new Paper();
        reader = new Reader(deeds, paper);
        reckoned = new long[DEPTHS];
        visiting = new Task(deeds);
        weighing = new Weighing(deeds, reckoned);
        marking = new Marking(deeds, reckoned);
        comparing = new Comparing(deeds);
        writing = new Writing(deeds, draft);
        finding = new Finding(deeds);
        copying = new Copying(deeds);
        walker = new Walker(deeds, visiting);
    }

    // ---- deeds

    public int deed(int kind, int number) {
        if (!isKind(kind)) {
            return BAD;
        }
        return deeds.hasRoom(1, 0) ? deeds.add(kind, number) : FULL;
    }

    public int enclose(int deed, int part) {
        if (!deeds.has(deed) || !deeds.has(part)) {
            return BAD;
        }
        if (part >= deed) {
            return ELDER;
        }
        if (!deeds.hasRoom(0, 1)) {
            return FULL;
        }
        deeds.addPart(deed, part);
        return deeds.partsOf(deed);
    }

    public int chain(int n, int kind, int number, int times, int first) {
        boolean bounded = n >= 1 && n <= MOST_CHAINED && times >= 1 && times <= MOST_TIMES;
        if (!bounded || !isKind(kind) || (first != NONE && !deeds.has(first))) {
            return BAD;
        }
        int enclosing = first == NONE ? n - 1 : n;
        if (!deeds.hasRoom(n, enclosing * times)) {
            return FULL;
        }
        int ahead = first;
        for (int i = 0; i < n; i++) {
            ahead = link(kind, number, times, ahead);
        }
        return ahead;
    }

    private int link(int kind, int number, int times, int ahead) {
        int deed = deeds.add(kind, number);
        for (int i = 0; i < times && ahead != NONE; i++) {
            deeds.addPart(deed, ahead);
        }
        return deed;
    }

    public int way(int way) {
        if (way < BY_CALLS || way > BY_BOTH) {
            return BAD;
        }
        int before = walker.way;
        walker.way = way;
        return before;
    }

    public int meter(int m) {
        if (m < 1 || m > MOST_METER) {
            return BAD;
        }
        int before = walker.meter;
        walker.meter = m;
        return before;
    }

    public int of(int deed, int what) {
        if (!deeds.has(deed)) {
            return LEAST_INT;
        }
        switch (what) {
            case 0:
                return deeds.kind[deed];
            case 1:
                return deeds.partsOf(deed);
            case 2:
                return deeds.number[deed];
            default:
                return LEAST_INT;
        }
    }

    public int part(int deed, int i) {
        if (!deeds.has(deed) || i < 0 || i >= deeds.partsOf(deed)) {
            return BAD;
        }
        return deeds.partAt(deed, i);
    }

    // ---- walks

    public int size(int deed) {
        int outcome = walker.go(visiting, deed);
        return outcome == 0 ? walker.visited : outcome;
    }

    public int depth(int deed) {
        int outcome = walker.go(visiting, deed);
        return outcome == 0 ? walker.deepest : outcome;
    }

    public long worth(int deed) {
        return walker.go(weighing, deed) == 0 ? reckoned[1] : 0;
    }

    public long mark(int deed) {
        return walker.go(marking, deed) == 0 ? reckoned[1] : 0;
    }

    public int alike(int a, int b) {
        if (!deeds.has(b)) {
            return walker.refuse();
        }
        comparing.begin(b);
        int outcome = walker.go(comparing, a);
        if (outcome != 0) {
            return outcome;
        }
        return comparing.over ? 0 : 1;
    }

    public int write(int deed) {
        draft.clear();
        int outcome = walker.go(writing, deed);
        if (outcome != 0) {
            return outcome;
        }
        if (draft.overfull) {
            return FULL;
        }
        paper.become(draft);
        return paper.length;
    }

    public int find(int deed, int kind, int number) {
        if (!isKind(kind)) {
            return walker.refuse();
        }
        finding.begin(kind, number);
        int outcome = walker.go(finding, deed);
        if (outcome != 0) {
            return outcome;
        }
        return finding.over ? walker.visited - 1 : NONE;
    }

    public int widest(int deed, int what) {
        if (what < 0 || what > 1) {
            return walker.refuse();
        }
        int outcome = walker.go(visiting, deed);
        if (outcome != 0) {
            return outcome;
        }
        int widestDepth = walker.widestDepth();
        return what == 0 ? widestDepth : walker.width[widestDepth];
    }

    public int copy(int deed) {
        return remake(deed, GREATEST_INT, false);
    }

    public int thin(int deed, int t) {
        return remake(deed, t, false);
    }

    public int order(int deed) {
        return remake(deed, GREATEST_INT, true);
    }

    private int remake(int deed, int most, boolean inOrder) {
        copying.beginCounting(most);
        int outcome = walker.go(copying, deed);
        if (outcome != 0) {
            return outcome;
        }
        if (!deeds.hasRoom(copying.kept, copying.kept - 1)) {
            return FULL;
        }
        // The same visits once more, in another order at most: VISITED and CALLS come out as they were.
        copying.beginMaking(deed, inOrder);
        walker.go(copying, deed);
        return deeds.takeBound();
    }

    // ---- paper

    public int feed(long w, int n) {
        if (n < 1 || n > MOST_FED) {
            return BAD;
        }
        if (paper.length + n > MOST_BYTES) {
            return FULL;
        }
        for (int i = n - 1; i >= 0; i--) {
            paper.add((int) (w >>> (8 * i)) & 255);
        }
        return paper.length;
    }

    public int tear() {
        int had = paper.length;
        paper.clear();
        return had;
    }

    public int byteAt(int i) {
        return paper.at(i);
    }

    public int read() {
        int fault = reader.scan(false);
        if (fault != NONE) {
            return PLACE_BASE - fault;
        }
        if (!deeds.hasRoom(reader.whole, reader.whole - 1)) {
            return FULL;
        }
        reader.scan(true);
        return deeds.takeBound();
    }

    // ---- told

    public int answer() {
        return walker.outcome;
    }

    public int count(int what) {
        switch (what) {
            case 0:
                return deeds.made;
            case 1:
                return deeds.allParts();
            case 2:
                return paper.length;
            case 3:
                return walker.visited;
            case 4:
                return walker.calls;
            default:
                return BAD;
        }
    }

    private static boolean isKind(int kind) {
        return kind >= 0 && kind < KINDS;
    }

    /** The deeds that are made; the parts of all lie in one row, by the number of what they are parts of. */
    private static final class Deeds {
        final int[] kind = new int[MOST_DEEDS];
        final int[] number = new int[MOST_DEEDS];
        final int[] start = new int[MOST_DEEDS + 1];
        final int[] parts = new int[MOST_PARTS];
        /** Deeds that were bound, but are not yet parts of another. */
        private final int[] loose = new int[MOST_DEEDS];
        private int looseCount;
        int made;

        boolean has(int deed) {
            return deed >= 0 && deed < made;
        }

        boolean hasRoom(int moreDeeds, int moreParts) {
            return made + moreDeeds <= MOST_DEEDS && allParts() + moreParts <= MOST_PARTS;
        }

        int allParts() {
            return start[made];
        }

        int partsOf(int deed) {
            return start[deed + 1] - start[deed];
        }

        int partAt(int deed, int i) {
            return i >= 0 && i < start[deed + 1] - start[deed] ? parts[start[deed] + i] : NONE;
        }

        /** Only behind hasRoom. */
        int add(int newKind, int newNumber) {
            int deed = made;
            kind[deed] = newKind;
            number[deed] = newNumber;
            start[deed + 1] = start[deed];
            made++;
            return deed;
        }

        /** Only behind hasRoom. */
        void addPart(int deed, int part) {
            int end = start[deed + 1];
            System.arraycopy(parts, end, parts, end + 1, allParts() - end);
            parts[end] = part;
            for (int younger = deed + 1; younger <= made; younger++) {
                start[younger]++;
            }
        }

        /** Makes a deed of the n loose ones that were bound last, as its parts; only behind hasRoom. */
        void bind(int newKind, int newNumber, int n) {
            int deed = add(newKind, newNumber);
            int from = looseCount - n;
            System.arraycopy(loose, from, parts, start[deed], n);
            start[deed + 1] += n;
            loose[from] = deed;
            looseCount = from + 1;
        }

        int takeBound() {
            looseCount = 0;
            return loose[0];
        }
    }

    /** Bytes in a row; one that finds no room is told by overfull. */
    private static final class Paper {
        private final byte[] bytes = new byte[MOST_BYTES];
        int length;
        boolean overfull;

        void clear() {
            length = 0;
            overfull = false;
        }

        int at(int i) {
            return i >= 0 && i < length ? bytes[i] & 255 : NONE;
        }

        void add(int value) {
            if (length == MOST_BYTES) {
                overfull = true;
                return;
            }
            bytes[length] = (byte) value;
            length++;
        }

        void addFigures(int number) {
            // The least int has no opposite among ints.
            long rest = Math.abs((long) number);
            if (number < 0) {
                add('-');
            }
            long unit = 1;
            for (int i = 1; i < MOST_FIGURES && rest / unit > 9; i++) {
                unit *= 10;
            }
            for (int i = 0; i < MOST_FIGURES && unit > 0; i++) {
                add((int) ('0' + rest / unit));
                rest %= unit;
                unit /= 10;
            }
        }

        void become(Paper other) {
            System.arraycopy(other.bytes, 0, bytes, 0, other.length);
            length = other.length;
        }
    }

    /** Reads paper as a deed written: once to see whether it is one, and again to make it. */
    private static final class Reader {
        /** Letter, figure and bracket go ahead of each deed that is open. */
        private static final int MOST_OPEN = MOST_BYTES / 3 + 1;
        private static final long ABOVE_INTS = 1L << 40;

        private final Deeds deeds;
        private final Paper paper;
        private final int[] openKind = new int[MOST_OPEN];
        private final int[] openNumber = new int[MOST_OPEN];
        private final int[] openParts = new int[MOST_OPEN];
        private int open;
        private int at;
        private int kind;
        private int number;
        private boolean making;
        /** How many deeds were read from their letter to their end. */
        int whole;

        Reader(Deeds deeds, Paper paper) {
            this.deeds = deeds;
            this.paper = paper;
        }

        /** NONE, or the place of the first byte with which the text does not go on. */
        int scan(boolean toMake) {
            making = toMake;
            open = 0;
            at = 0;
            whole = 0;
            for (int turn = 0; turn <= MOST_BYTES; turn++) {
                if (!scanKind() || !scanNumber()) {
                    return at;
                }
                if (paper.at(at) == '(' && open < MOST_OPEN) {
                    openDeed();
                    continue;
                }
                finishDeed(kind, number, 0);
                closeDeeds();
                if (open == 0) {
                    return at == paper.length ? NONE : at;
                }
                if (paper.at(at) != ',') {
                    return at;
                }
                at++;
            }
            return at;
        }

        private boolean scanKind() {
            kind = paper.at(at) - 'a';
            if (!isKind(kind)) {
                return false;
            }
            at++;
            return true;
        }

        private boolean scanNumber() {
            int from = at;
            boolean below = paper.at(at) == '-';
            if (below) {
                at++;
            }
            if (!isFigure(paper.at(at)) || (below && paper.at(at) == '0')) {
                return false;
            }
            long value = scanFigures();
            long signed = below ? -value : value;
            if (signed < LEAST_INT || signed > GREATEST_INT) {
                at = from;
                return false;
            }
            number = (int) signed;
            return true;
        }

        /** Behind a 0 ahead no figure goes on: it stays unread, and is the fault. */
        private long scanFigures() {
            if (paper.at(at) == '0') {
                at++;
                return 0;
            }
            long value = 0;
            for (; at < paper.length && isFigure(paper.at(at)); at++) {
                value = Math.min(10 * value + paper.at(at) - '0', ABOVE_INTS);
            }
            return value;
        }

        private static boolean isFigure(int value) {
            return value >= '0' && value <= '9';
        }

        private void openDeed() {
            at++;
            openKind[open] = kind;
            openNumber[open] = number;
            openParts[open] = 0;
            open++;
        }

        private void closeDeeds() {
            for (; open > 0 && paper.at(at) == ')'; at++) {
                open--;
                finishDeed(openKind[open], openNumber[open], openParts[open]);
            }
        }

        private void finishDeed(int itsKind, int itsNumber, int itsParts) {
            whole++;
            if (open > 0) {
                openParts[open - 1]++;
            }
            if (making) {
                deeds.bind(itsKind, itsNumber, itsParts);
            }
        }
    }

    /** Goes from a deed to its parts by the way that is set, and tells how far it came. */
    private static final class Walker {
        /** Steps of BY_STEPS: each tells which one is next. */
        private static final int LOOK = 0, VISIT = 1, CLOSE = 2, TAKE_UP = 3, END = 4;

        private final Deeds deeds;
        private final int[] deedAt = new int[DEPTHS];
        private final int[] turnAt = new int[DEPTHS];
        /** How many were visited at each depth down to the deepest. */
        final int[] width = new int[DEPTHS];
        int way = BY_CALLS;
        int meter = 100;
        int outcome;
        int visited;
        int deepest;
        int calls;
        private Task task;
        private int bottom;
        private int level;
        private int coming;

        Walker(Deeds deeds, Task task) {
            this.deeds = deeds;
            this.task = task;
        }

        int refuse() {
            outcome = BAD;
            return BAD;
        }

        /** 0, BAD, SPENT or DEEP. */
        int go(Task chosen, int deed) {
            if (!deeds.has(deed)) {
                return refuse();
            }
            task = chosen;
            task.over = false;
            outcome = 0;
            visited = 0;
            deepest = 0;
            bottom = way == BY_CALLS ? meter : MOST_DEEDS;
            if (visit(1, deed)) {
                if (way == BY_STACK) {
                    byStack(1);
                } else if (way == BY_STEPS) {
                    bySteps();
                } else {
                    byCalls(1, Math.min(meter, MOST_OWN_CALLS));
                }
            }
            boolean called = way == BY_CALLS || way == BY_BOTH;
            calls = called ? Math.min(deepest, meter) : 0;
            return outcome;
        }

        /** The least depth at which the most were visited. */
        int widestDepth() {
            int best = 1;
            for (int depth = 2; depth <= deepest; depth++) {
                if (width[depth] > width[best]) {
                    best = depth;
                }
            }
            return best;
        }

        private boolean visit(int depth, int deed) {
            if (visited == MOST_VISITS) {
                return halt(SPENT);
            }
            if (depth > bottom) {
                return halt(DEEP);
            }
            visited++;
            if (depth > deepest) {
                deepest = depth;
                width[depth] = 0;
            }
            width[depth]++;
            deedAt[depth] = deed;
            turnAt[depth] = 0;
            task.enter(depth, deed);
            return !task.over;
        }

        private boolean halt(int why) {
            outcome = why;
            task.over = true;
            return false;
        }

        /** The part that is to be visited next from a depth, or NONE. */
        private int nextPart(int depth) {
            int deed = deedAt[depth];
            int turn = turnAt[depth];
            if (turn >= deeds.partsOf(deed)) {
                return NONE;
            }
            turnAt[depth] = turn + 1;
            return task.choose(depth, deed, turn);
        }

        /** Own calls down to the lowest depth for them, and a stack below it. */
        private void byCalls(int depth, int lowest) {
            for (int turn = 0; turn < MOST_PARTS; turn++) {
                int part = nextPart(depth);
                if (part == NONE) {
                    break;
                }
                if (!visit(depth + 1, part)) {
                    return;
                }
                if (depth < lowest) {
                    byCalls(depth + 1, lowest);
                } else {
                    byStack(depth + 1);
                }
                if (task.over) {
                    return;
                }
                task.takeUp(depth, deedAt[depth], turnAt[depth] - 1);
            }
            task.leave(depth, deedAt[depth]);
        }

        private void byStack(int top) {
            int depth = top;
            for (int step = 0; step < MOST_STEPS && depth >= top && !task.over; step++) {
                int part = nextPart(depth);
                if (part != NONE) {
                    depth++;
                    visit(depth, part);
                    continue;
                }
                task.leave(depth, deedAt[depth]);
                depth--;
                if (depth >= top) {
                    task.takeUp(depth, deedAt[depth], turnAt[depth] - 1);
                }
            }
        }

        private void bySteps() {
            level = 1;
            int step = LOOK;
            for (int i = 0; i < MOST_STEPS && step != END && !task.over; i++) {
                step = take(step);
            }
        }

        private int take(int step) {
            switch (step) {
                case LOOK:
                    coming = nextPart(level);
                    return coming == NONE ? CLOSE : VISIT;
                case VISIT:
                    level++;
                    visit(level, coming);
                    return LOOK;
                case CLOSE:
                    task.leave(level, deedAt[level]);
                    level--;
                    return level == 0 ? END : TAKE_UP;
                case TAKE_UP:
                    task.takeUp(level, deedAt[level], turnAt[level] - 1);
                    return LOOK;
                default:
                    return END;
            }
        }
    }

    /** What a walk does at its deeds: nothing here, but all parts are visited, from the first to the last. */
    private static class Task {
        final Deeds deeds;
        /** The walk ends here, because it is halted or all is known. */
        boolean over;

        Task(Deeds deeds) {
            this.deeds = deeds;
        }

        /** A deed is visited. */
        void enter(int depth, int deed) {
        }

        /** Which part is visited in a turn (from 0, below the number of parts); NONE: no more. */
        int choose(int depth, int deed, int turn) {
            return deeds.partAt(deed, turn);
        }

        /** The part of a turn has been left, one depth below. */
        void takeUp(int depth, int deed, int turn) {
        }

        /** All that was to be visited in a deed has been. */
        void leave(int depth, int deed) {
        }
    }

    /** WORTH, of each deed that is open or was left last at its depth. */
    private static final class Weighing extends Task {
        private final long[] worthAt;
        private final long[] firstAt = new long[DEPTHS];

        Weighing(Deeds deeds, long[] worthAt) {
            super(deeds);
            this.worthAt = worthAt;
        }

        void enter(int depth, int deed) {
            int number = deeds.number[deed];
            switch (deeds.kind[deed]) {
                case TURN:
                    worthAt[depth] = 0;
                    break;
                case LIKE:
                    worthAt[depth] = 1;
                    break;
                case SIZE:
                    worthAt[depth] = (long) number + deeds.partsOf(deed);
                    break;
                default:
                    worthAt[depth] = number;
                    break;
            }
        }

        int choose(int depth, int deed, int turn) {
            switch (deeds.kind[deed]) {
                case LEAF:
                    return NONE;
                case CHOICE:
                    return deeds.partAt(deed, placeOfChoice(depth, deed, turn));
                case FIRST:
                    return turn > 0 && worthAt[depth + 1] != 0 ? NONE : deeds.partAt(deed, turn);
                default:
                    return deeds.partAt(deed, turn);
            }
        }

        private int placeOfChoice(int depth, int deed, int turn) {
            if (turn == 0) {
                return 0;
            }
            long others = deeds.partsOf(deed) - 1;
            if (turn > 1 || others < 1) {
                return NONE;
            }
            return 1 + (int) Math.floorMod(worthAt[depth], others);
        }

        void takeUp(int depth, int deed, int turn) {
            long w = worthAt[depth + 1];
            long r = worthAt[depth];
            switch (deeds.kind[deed]) {
                case SUM:
                    worthAt[depth] = r + w;
                    break;
                case PRODUCT:
                    worthAt[depth] = r * w;
                    break;
                case LESS:
                    worthAt[depth] = turn == 0 ? w : r - w;
                    break;
                case GREATEST:
                    worthAt[depth] = Math.max(r, w);
                    break;
                case LEAST:
                    worthAt[depth] = Math.min(r, w);
                    break;
                case TURN:
                    worthAt[depth] = r * deeds.number[deed] + w;
                    break;
                case CHOICE:
                    worthAt[depth] = w;
                    break;
                case FIRST:
                    worthAt[depth] = w != 0 ? w : r;
                    break;
                case LIKE:
                    takeUpLike(depth, turn, w);
                    break;
                case BITS:
                    worthAt[depth] = r ^ Long.rotateLeft(w, turn % 64);
                    break;
                default:
                    break;
            }
        }

        private void takeUpLike(int depth, int turn, long w) {
            if (turn == 0) {
                firstAt[depth] = w;
            } else if (firstAt[depth] != w) {
                worthAt[depth] = 0;
            }
        }
    }

    /** MARK, of each deed that is open or was left last at its depth. */
    private static final class Marking extends Task {
        private final long[] markAt;

        Marking(Deeds deeds, long[] markAt) {
            super(deeds);
            this.markAt = markAt;
        }

        static long begun(int kind, int number) {
            return (7L * 31 + kind) * 31 + number;
        }

        static long with(long h, long partMark) {
            return (h * 1000003) ^ partMark;
        }

        static long ended(long h) {
            return h ^ (h >>> 29);
        }

        void enter(int depth, int deed) {
            markAt[depth] = begun(deeds.kind[deed], deeds.number[deed]);
        }

        void takeUp(int depth, int deed, int turn) {
            markAt[depth] = with(markAt[depth], markAt[depth + 1]);
        }

        void leave(int depth, int deed) {
            markAt[depth] = ended(markAt[depth]);
        }
    }

    /** ALIKE: the walk goes over one deed, and the other one keeps step; it is over where they differ. */
    private static final class Comparing extends Task {
        private final int[] otherAt = new int[DEPTHS];

        Comparing(Deeds deeds) {
            super(deeds);
        }

        void begin(int other) {
            otherAt[1] = other;
        }

        void enter(int depth, int deed) {
            int other = otherAt[depth];
            over = deeds.kind[deed] != deeds.kind[other]
                    || deeds.number[deed] != deeds.number[other]
                    || deeds.partsOf(deed) != deeds.partsOf(other);
        }

        int choose(int depth, int deed, int turn) {
            int other = otherAt[depth];
            if (other == deed) {
                return NONE;
            }
            otherAt[depth + 1] = deeds.partAt(other, turn);
            return deeds.partAt(deed, turn);
        }
    }

    /** WRITTEN, on a draft, since paper stays as it is where a walk fails; over where the draft is full. */
    private static final class Writing extends Task {
        private final Paper draft;

        Writing(Deeds deeds, Paper draft) {
            super(deeds);
            this.draft = draft;
        }

        void enter(int depth, int deed) {
            draft.add('a' + deeds.kind[deed]);
            draft.addFigures(deeds.number[deed]);
            if (deeds.partsOf(deed) > 0) {
                draft.add('(');
            }
        }

        /** Each visit but the first comes behind a choice, so it is enough to look here. */
        int choose(int depth, int deed, int turn) {
            if (turn > 0) {
                draft.add(',');
            }
            over = draft.overfull;
            return over ? NONE : deeds.partAt(deed, turn);
        }

        void leave(int depth, int deed) {
            if (deeds.partsOf(deed) > 0) {
                draft.add(')');
            }
        }
    }

    /** FOUND: the walk is over at the first deed of a kind and number. */
    private static final class Finding extends Task {
        private int kind;
        private int number;

        Finding(Deeds deeds) {
            super(deeds);
        }

        void begin(int soughtKind, int soughtNumber) {
            kind = soughtKind;
            number = soughtNumber;
        }

        void enter(int depth, int deed) {
            over = deeds.kind[deed] == kind && deeds.number[deed] == number;
        }
    }

    /** COPIED, THINNED, IN ORDER: a first walk counts what is kept, a second one makes it. */
    private static final class Copying extends Task {
        private final boolean[] keptAt = new boolean[DEPTHS];
        private final int[] keptPartsAt = new int[DEPTHS];
        private final long[] mark = new long[MOST_DEEDS];
        private final int[] sorted = new int[MOST_PARTS];
        private int most;
        private boolean making;
        private boolean sorting;
        int kept;

        Copying(Deeds deeds) {
            super(deeds);
        }

        /** Leaves whose number is above the most are not kept. */
        void beginCounting(int mostOfLeaves) {
            most = mostOfLeaves;
            making = false;
            sorting = false;
            kept = 0;
        }

        void beginMaking(int root, boolean inOrder) {
            making = true;
            sorting = inOrder;
            if (inOrder) {
                System.arraycopy(deeds.parts, 0, sorted, 0, deeds.allParts());
                reckonMarks(root);
            }
        }

        /** Parts are elder, so their marks are known when they are asked for. */
        private void reckonMarks(int root) {
            for (int deed = 0; deed <= root; deed++) {
                long h = Marking.begun(deeds.kind[deed], deeds.number[deed]);
                for (int i = deeds.start[deed]; i < deeds.start[deed + 1]; i++) {
                    h = Marking.with(h, mark[deeds.parts[i]]);
                }
                mark[deed] = Marking.ended(h);
            }
        }

        void enter(int depth, int deed) {
            boolean leafOut = deeds.kind[deed] == LEAF && deeds.number[deed] > most;
            keptAt[depth] = depth == 1 || (keptAt[depth - 1] && !leafOut);
            keptPartsAt[depth] = 0;
            if (keptAt[depth]) {
                kept++;
            }
            if (sorting) {
                sortParts(deeds.start[deed], deeds.start[deed + 1]);
            }
        }

        /** By insertion: like ones stay as they stood, and a row that was sorted before costs one look. */
        private void sortParts(int from, int end) {
            for (int i = from + 1; i < end; i++) {
                int part = sorted[i];
                int hole = i;
                for (; hole > from && mark[sorted[hole - 1]] > mark[part]; hole--) {
                    sorted[hole] = sorted[hole - 1];
                }
                sorted[hole] = part;
            }
        }

        int choose(int depth, int deed, int turn) {
            return sorting ? sorted[deeds.start[deed] + turn] : deeds.partAt(deed, turn);
        }

        void takeUp(int depth, int deed, int turn) {
            if (keptAt[depth + 1]) {
                keptPartsAt[depth]++;
            }
        }

        void leave(int depth, int deed) {
            if (making && keptAt[depth]) {
                deeds.bind(deeds.kind[deed], deeds.number[deed], keptPartsAt[depth]);
            }
        }
    }
}
