import java.util.Arrays;

/** ALIKE, WRITTEN, FOUND and WIDEST at their edges, by each WAY. */
public final class TellEdgeTest {
    private static final Edge EDGE = new Edge("TellEdgeTest");
    private static final int NONE = NestedDeeds.NONE, BAD = NestedDeeds.BAD, FULL = NestedDeeds.FULL;
    private static final int DEEP = NestedDeeds.DEEP;
    private static int way;

    interface Building {
        int[] in(Archive x);
    }

    public static void main(String[] args) {
        for (way = 0; way <= 3; way++) {
            alikeByEachRule();
            alikeUntilItKnows();
            alikeAndItself();
            alikeBad();
            writtenLetters();
            writtenFigures();
            writtenParts();
            writtenInPlace();
            writtenUpToTheLastByte();
            fullAtAComma();
            fullAtABracket();
            fullAtAFigure();
            fullBeforeOrBehindDeep();
            foundFirst();
            foundNone();
            foundBad();
            widestLeastDepth();
            widestBad();
        }
        EDGE.finish();
    }

    private static Archive archive() {
        Archive x = new Archive();
        x.way(way);
        return x;
    }

    private static Edge.Told told(int visited, int deepest) {
        return new Edge.Told(0, visited, Edge.calls(way, 100, deepest));
    }

    // ---- ALIKE

    /** The building ends with the two deeds that are compared; both ways round are the same. */
    private static void dueAlike(String says, Building building, int alike, int visited, int deepest) {
        String sentence = "ALIKE: " + says + ", by WAY " + way;
        Archive x = archive();
        int[] two = building.in(x);
        EDGE.due(sentence, x.alike(two[0], two[1]), alike);
        EDGE.told(sentence, x, told(visited, deepest));
        EDGE.due(sentence + ", turned round", x.alike(two[1], two[0]), alike);
        EDGE.told(sentence + ", turned round", x, told(visited, deepest));
    }

    private static int[] two(int a, int b) {
        return new int[] {a, b};
    }

    private static void alikeByEachRule() {
        dueAlike("if KIND, NUMBER are the same", x -> two(x.deed(3, 5), x.deed(3, 5)), 1, 1, 1);
        dueAlike("KIND differs", x -> two(x.deed(3, 5), x.deed(4, 5)), 0, 1, 1);
        dueAlike("NUMBER differs", x -> two(x.deed(3, 5), x.deed(3, 6)), 0, 1, 1);
        dueAlike("NUMBER differs by its sign", x -> two(x.deed(3, 5), x.deed(3, -5)), 0, 1, 1);
        dueAlike("none and one PART", x -> two(x.deed(3, 5), x.bound(3, 5, 0)), 0, 1, 1);
        dueAlike("one and two PARTS", x -> two(x.bound(3, 5, x.deed(0, 1)), x.bound(3, 5, 0, 0)), 0, 1, 1);
        dueAlike("PARTS are ALIKE", x -> two(x.bound(3, 5, x.deed(0, 1)), x.bound(3, 5, x.deed(0, 1))), 1, 2, 2);
        dueAlike("PARTS are not", x -> two(x.bound(3, 5, x.deed(0, 1)), x.bound(3, 5, x.deed(0, 2))), 0, 2, 2);
        dueAlike("pair by pair, not in another order", x -> {
            int a = x.deed(0, 1);
            int b = x.deed(0, 2);
            return two(x.bound(3, 5, a, b), x.bound(3, 5, b, a));
        }, 0, 2, 2);
        dueAlike("also PARTS of a LEAF", x -> two(x.bound(0, 5, x.deed(0, 1)), x.bound(0, 5, x.deed(0, 2))), 0, 2, 2);
        dueAlike("of one MARK, but not ALIKE", x -> two(x.deed(0, 31), x.deed(1, 0)), 0, 1, 1);
    }

    private static void alikeUntilItKnows() {
        dueAlike("the last pair differs", x -> {
            int a = x.deed(0, 1);
            int b = x.deed(0, 1);
            return two(x.bound(1, 0, a, a, b), x.bound(1, 0, b, b, x.deed(0, 2)));
        }, 0, 4, 2);
        dueAlike("the first pair differs", x -> {
            int a = x.deed(0, 1);
            int b = x.deed(0, 1);
            return two(x.bound(1, 0, a, a, b), x.bound(1, 0, x.deed(0, 2), b, b));
        }, 0, 2, 2);
        dueAlike("a pair within differs", x -> {
            int a = x.bound(1, 0, x.deed(0, 1), x.deed(0, 2));
            int b = x.bound(1, 0, x.deed(0, 3), x.deed(0, 2));
            return two(x.bound(1, 0, a, a), x.bound(1, 0, b, b));
        }, 0, 3, 3);
        dueAlike("PARTS of a PART are one more", x -> {
            int a = x.bound(1, 0, x.deed(0, 1));
            int b = x.bound(1, 0, 0, 0);
            return two(x.bound(1, 0, 0, a), x.bound(1, 0, 0, b));
        }, 0, 3, 2);
    }

    private static void alikeAndItself() {
        String says = "a DEED and itself are ALIKE without a look at PARTS";
        dueAlike(says + ", alone", x -> two(x.deed(3, 5), 0), 1, 1, 1);
        dueAlike(says, x -> two(x.bound(3, 5, x.deed(0, 1), 0), 1), 1, 1, 1);
        dueAlike(says + ", as PARTS", x -> {
            int shared = x.bound(3, 5, x.deed(0, 1), 0);
            return two(x.bound(1, 0, shared, shared), x.bound(1, 0, shared, shared));
        }, 1, 3, 2);
        dueAlike(says + ", and then the next pair", x -> {
            int shared = x.bound(3, 5, x.deed(0, 1), 0);
            return two(x.bound(1, 0, shared, 0), x.bound(1, 0, shared, x.deed(0, 2)));
        }, 0, 3, 2);
        dueAlike(says + ", but like ones with one", x -> {
            int a = x.bound(3, 5, x.deed(0, 1), 0);
            int b = x.bound(3, 5, 0, 0);
            return two(x.bound(1, 0, a), x.bound(1, 0, b));
        }, 1, 4, 3);
    }

    private static void pairs(Archive x) {
        x.way(way);
        x.bound(1, 0, x.deed(0, 1));
        x.size(1);
    }

    private static void alikeBad() {
        for (int none : new int[] {-1, 2, Integer.MIN_VALUE, Integer.MAX_VALUE}) {
            EDGE.badWalk("alike: BAD a " + none, TellEdgeTest::pairs, x -> x.alike(none, 0), BAD);
            EDGE.badWalk("alike: BAD b " + none, TellEdgeTest::pairs, x -> x.alike(0, none), BAD);
            EDGE.badWalk("alike: BAD, though it is itself", TellEdgeTest::pairs, x -> x.alike(none, none), BAD);
        }
    }

    // ---- WRITTEN

    private static void dueText(String says, String got, String want) {
        EDGE.dueText("WRITTEN: " + says + ", by WAY " + way, got, want);
    }

    private static void writtenLetters() {
        for (int kind = 0; kind <= 11; kind++) {
            Archive x = archive();
            dueText("KIND by the letter a to l", x.textOf(x.deed(kind, 7)), "abcdefghijkl".charAt(kind) + "7");
        }
    }

    private static void writtenFigures() {
        for (long power = 1; power <= 1000000000; power *= 10) {
            for (long number : new long[] {power - 1, power, power + 1, 2 * power, -power, 1 - power}) {
                dueNumber(number);
            }
        }
        dueNumber(Integer.MAX_VALUE);
        dueNumber(Integer.MAX_VALUE - 1);
        dueNumber(Integer.MIN_VALUE);
        dueNumber(Integer.MIN_VALUE + 1);
    }

    private static void dueNumber(long number) {
        Archive x = archive();
        int deed = x.deed(0, (int) number);
        String text = "a" + number;
        EDGE.due("WRITTEN: how many bytes", x.write(deed), text.length());
        dueText("the NUMBER in figures (- ahead, if it is below 0)", x.paperText(), text);
    }

    private static void writtenParts() {
        Archive x = archive();
        int a = x.deed(0, 1);
        dueText("without PARTS no (", x.textOf(a), "a1");
        int one = x.bound(1, 2, a);
        dueText("one PART, no comma", x.textOf(one), "b2(a1)");
        int two = x.bound(2, 3, a, one);
        dueText("two PARTS, one comma between", x.textOf(two), "c3(a1,b2(a1))");
        int leaf = x.bound(0, -4, one, a, one);
        dueText("PARTS of a LEAF too", x.textOf(leaf), "a-4(b2(a1),a1,b2(a1))");
        EDGE.told("WRITTEN by WAY " + way, x, told(6, 3));
    }

    private static void writtenInPlace() {
        Archive x = archive();
        x.bound(1, 22, x.deed(0, 1), 0);
        x.feedText("what is on it, and much more");
        EDGE.due("WRITTEN in place of what is on it", x.write(1), 10);
        EDGE.due("WRITTEN in place of what is on it: count(2)", x.count(2), 10);
        EDGE.due("WRITTEN in place of what is on it: behind it", x.byteAt(10), NONE);
        dueText("in place of what is on it", x.paperText(), "b22(a1,a1)");
        EDGE.due("WRITTEN in place of what was longer", x.write(0), 2);
        dueText("in place of what was longer", x.paperText(), "a1");
        EDGE.due("WRITTEN in place of what was longer: behind it", x.byteAt(2), NONE);
        EDGE.due("feed comes behind what is WRITTEN", x.feed('5', 1), 3);
        dueText("feed comes behind it", x.paperText(), "a15");
    }

    /** A deed b1 whose parts take so many bytes, and then others; those are elder than the deeds made here. */
    private static int filled(Archive x, int bytes, int... more) {
        int doubles = x.doubles();
        int[] parts = x.writing(doubles, bytes);
        int all = parts.length;
        parts = Arrays.copyOf(parts, all + more.length);
        System.arraycopy(more, 0, parts, all, more.length);
        return x.bound(1, 1, parts);
    }

    /** How many are visited of a deed whose parts take so many bytes: itself, and them. */
    private static int visitsOf(int bytes) {
        Archive x = new Archive();
        return x.size(filled(x, bytes));
    }

    private static void dueFull(String says, Edge.Making making, int visited) {
        Edge.Told told = told(visited, 11);
        EDGE.walk("WRITTEN: " + says + ", by WAY " + way, making, x -> x.write(x.count(0) - 1), FULL, told);
    }

    private static void old(Archive x) {
        x.way(way);
        x.feedText("what is on it");
    }

    private static void writtenUpToTheLastByte() {
        for (int bytes = 5998; bytes <= 6000; bytes++) {
            Archive x = archive();
            int root = filled(x, bytes - 3);
            String says = "WRITTEN: " + bytes + " bytes, by WAY " + way;
            EDGE.due(says, x.write(root), bytes);
            EDGE.told(says, x, told(visitsOf(bytes - 3), 11));
            EDGE.due(says + ": count(2)", x.count(2), bytes);
            EDGE.due(says + ": the last", x.byteAt(bytes - 1), ')');
            EDGE.due(says + ": behind the last", x.byteAt(bytes), NONE);
        }
        for (int bytes = 6001; bytes <= 6003; bytes++) {
            int more = bytes - 3;
            dueFull("FULL, when a 6001st is to be written, of " + bytes, x -> {
                old(x);
                filled(x, more);
            }, visitsOf(more));
        }
    }

    /** Ahead of the tail stand b1( and so many bytes, the last of them a comma. */
    private static Edge.Making tail(int bytes, Building tail) {
        return x -> {
            old(x);
            filled(x, bytes, tail.in(x));
        };
    }

    private static void fullAtAComma() {
        Building leaf = x -> new int[] {x.deed(0, 5)};
        dueFull("FULL, a comma is the 6001st: no visit behind it", tail(5998, leaf), visitsOf(5998));
        dueFull("FULL, a letter is the 6001st: its visit comes ahead", tail(5997, leaf), visitsOf(5997) + 1);
        dueFull("FULL, the last bracket is the 6001st", tail(5995, leaf), visitsOf(5995) + 1);
        Archive x = Edge.made(tail(5994, leaf));
        EDGE.due("WRITTEN: the last bracket is the 6000th", x.write(x.count(0) - 1), 6000);
    }

    private static void fullAtABracket() {
        Building nest = x -> new int[] {x.bound(1, 1, x.deed(0, 5))};
        dueFull("FULL, ( is the 6001st: no visit behind it", tail(5995, nest), visitsOf(5995) + 1);
        dueFull("FULL, a letter behind ( is: its visit comes ahead", tail(5994, nest), visitsOf(5994) + 2);
        dueFull("FULL, the ) of a PART is the 6001st", tail(5992, nest), visitsOf(5992) + 2);
        dueFull("FULL, the ) behind it is the 6001st", tail(5991, nest), visitsOf(5991) + 2);
        Building nestAndLeaf = x -> new int[] {x.bound(1, 1, x.deed(0, 5)), 0};
        dueFull("FULL, ) is the 6001st: no visit behind it", tail(5992, nestAndLeaf), visitsOf(5992) + 2);
        Archive x = Edge.made(tail(5990, nest));
        EDGE.due("WRITTEN: two brackets are the last ones", x.write(x.count(0) - 1), 6000);
    }

    private static void fullAtAFigure() {
        Building two = x -> new int[] {x.deed(0, -12), 0};
        dueFull("FULL, - is the 6001st", tail(5996, two), visitsOf(5996) + 1);
        dueFull("FULL, the first figure is", tail(5995, two), visitsOf(5995) + 1);
        dueFull("FULL, the last figure is", tail(5994, two), visitsOf(5994) + 1);
        dueFull("FULL, the comma behind it is", tail(5993, two), visitsOf(5993) + 1);
        dueFull("FULL, the letter behind that is", tail(5992, two), visitsOf(5992) + 2);
    }

    /** A line of 12 b1 is the last part, so its last one lies at depth 13; METER 12. */
    private static Edge.Making lineBehind(int bytes) {
        return x -> {
            x.meter(12);
            old(x);
            filled(x, bytes, x.chain(12, 1, 1, 1, -1));
        };
    }

    private static void fullBeforeOrBehindDeep() {
        String says = "FULL (as it comes, beside SPENT, DEEP), by WAY " + way;
        Edge.Call call = x -> x.write(x.count(0) - 1);
        int calls = Edge.calls(way, 12, 12);
        EDGE.walk(says + ": the byte ahead of the visit is the 6001st", lineBehind(5965), call, FULL,
            new Edge.Told(0, visitsOf(5965) + 11, calls));
        int visited = visitsOf(5964) + 11;
        EDGE.walk(says + ": the visit comes ahead of the 6001st", lineBehind(5964), call, way == 0 ? DEEP : FULL,
            way == 0 ? new Edge.Told(DEEP, visited, 12) : new Edge.Told(0, visited + 1, Edge.calls(way, 12, 13)));
    }

    // ---- FOUND

    /** Visited in this order: b1, a2, a3, a1, a2, a1; deed 3. */
    private static void sought(Archive x) {
        x.way(way);
        int a = x.deed(0, 1);
        int b = x.deed(0, 2);
        int c = x.bound(0, 3, a, b);
        x.bound(1, 1, b, c, a);
        x.size(0);
    }

    private static void dueFound(String says, int kind, int number, int found, Edge.Told told) {
        EDGE.walk("FOUND: " + says + ", by WAY " + way, TellEdgeTest::sought, x -> x.find(3, kind, number), found,
            told);
    }

    private static void foundFirst() {
        dueFound("none ahead of itself", 1, 1, 0, told(1, 1));
        dueFound("the first of several", 0, 2, 1, told(2, 2));
        dueFound("its KIND alone is not enough", 0, 3, 2, told(3, 2));
        dueFound("in a LEAF (as by SUM), its NUMBER alone is not enough", 0, 1, 3, told(4, 3));
        EDGE.walk("FOUND: the last one visited, by WAY " + way, x -> {
            sought(x);
            int last = x.deed(0, 9);
            x.bound(1, 1, 3, last);
        }, x -> x.find(5, 0, 9), 7, told(8, 4));
        EDGE.taken("FOUND: the least NUMBER", x -> x.deed(11, Integer.MIN_VALUE),
            x -> x.find(0, 11, Integer.MIN_VALUE), 0);
    }

    private static void foundNone() {
        dueFound("NONE: there is none such NUMBER", 0, 4, NONE, told(6, 3));
        dueFound("NONE: none such of that KIND", 1, 2, NONE, told(6, 3));
        dueFound("NONE: the greatest KIND", 11, 1, NONE, told(6, 3));
        EDGE.walk("FOUND: NONE of one that is elsewhere, by WAY " + way, TellEdgeTest::sought, x -> x.find(2, 1, 1),
            NONE, told(3, 2));
    }

    private static void foundBad() {
        for (int none : new int[] {-1, 4, Integer.MIN_VALUE, Integer.MAX_VALUE}) {
            EDGE.badWalk("find: BAD DEED " + none, TellEdgeTest::sought, x -> x.find(none, 0, 1), BAD);
        }
        for (int kind : new int[] {-1, 12, Integer.MIN_VALUE, Integer.MAX_VALUE}) {
            EDGE.badWalk("find: BAD KIND " + kind, TellEdgeTest::sought, x -> x.find(3, kind, 1), BAD);
        }
    }

    // ---- WIDEST

    private static void dueWidest(String says, Building building, int depth, int many) {
        Archive x = archive();
        int deed = building.in(x)[0];
        int visited = x.size(deed);
        int deepest = x.depth(deed);
        EDGE.due("WIDEST: " + says + ", by WAY " + way, x.widest(deed, 0), depth);
        EDGE.told("WIDEST: " + says + ", by WAY " + way, x, told(visited, deepest));
        EDGE.due("WIDEST: " + says + ", how many, by WAY " + way, x.widest(deed, 1), many);
        EDGE.told("WIDEST: " + says + ", how many, by WAY " + way, x, told(visited, deepest));
    }

    private static int[] one(int deed) {
        return new int[] {deed};
    }

    private static void widestLeastDepth() {
        dueWidest("alone", x -> one(x.deed(0, 0)), 1, 1);
        dueWidest("a line: the least such DEPTH", x -> one(x.chain(9, 1, 0, 1, -1)), 1, 1);
        dueWidest("DEPTH 2", x -> one(x.bound(1, 0, x.deed(0, 0), 0)), 2, 2);
        dueWidest("2 and 3 like: the least", x -> one(x.bound(1, 0, x.bound(0, 0, x.deed(0, 0), 0), 0)), 2, 2);
        dueWidest("3 by one more", x -> one(x.bound(1, 0, x.bound(0, 0, x.deed(0, 0), 0, 0), 0)), 3, 3);
        dueWidest("2 by one more", x -> one(x.bound(1, 0, x.bound(0, 0, x.deed(0, 0), 0), 0, 0)), 2, 3);
        dueWidest("2, 3 and 4 like: the least", x -> one(x.bound(1, 0, x.chain(3, 1, 0, 1, -1), 2)), 2, 2);
        dueWidest("the last DEPTH", x -> one(x.chain(8, 1, 0, 2, -1)), 8, 128);
        Archive x = archive();
        x.chain(4, 1, 0, 3, -1);
        x.widest(3, 1);
        EDGE.due("WIDEST: of the latest WALK alone, by WAY " + way, x.widest(1, 1), 3);
        EDGE.due("WIDEST: of the latest WALK alone, by WAY " + way, x.widest(2, 0), 3);
    }

    private static void widestBad() {
        for (int what : new int[] {-1, 2, Integer.MIN_VALUE, Integer.MAX_VALUE}) {
            EDGE.badWalk("widest: BAD what " + what, TellEdgeTest::sought, x -> x.widest(3, what), BAD);
        }
        for (int none : new int[] {-1, 4, Integer.MIN_VALUE, Integer.MAX_VALUE}) {
            EDGE.badWalk("widest: BAD DEED " + none, TellEdgeTest::sought, x -> x.widest(none, 0), BAD);
            EDGE.badWalk("widest: BAD DEED " + none, TellEdgeTest::sought, x -> x.widest(none, 1), BAD);
        }
    }
}
