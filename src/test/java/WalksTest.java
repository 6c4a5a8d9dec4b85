/** Promises 9 to 19: size, depth, worth, mark, alike, write, find, widest, copy, thin, order; by each way. */
public final class WalksTest {
    private static final Check CHECK = new Check("WalksTest");
    private static int way;

    public static void main(String[] args) {
        for (way = 0; way <= 3; way++) {
            promise9Size();
            promise9Spent();
            promise9Deep();
            promise9SpentAheadOfDeep();
            promise10Depth();
            promise11WorthOfSums();
            promise11WorthOfChoices();
            promise11WorthOfTheRest();
            promise11WorthRefused();
            promise12Mark();
            promise13Alike();
            promise13AlikeStopped();
            promise14Write();
            promise14WriteFull();
            promise14WriteDeepOrFull();
            promise15Find();
            promise16Widest();
            promise17Copy();
            promise17CopyFull();
            promise17CopyPartsFull();
            promise18Thin();
            promise19Order();
            promise19OrderOfLikeMarks();
        }
        CHECK.finish();
    }

    private static void due(String call, long got, long want) {
        CHECK.due("way " + way + ": " + call, got, want);
    }

    private static void dueText(String call, String got, String want) {
        CHECK.due("way " + way + ": " + call, got, want);
    }

    private static NestedDeeds archive(int meter) {
        NestedDeeds x = new NestedDeeds();
        x.way(way);
        x.meter(meter);
        return x;
    }

    private static int bound(NestedDeeds x, int kind, int number, int... parts) {
        int deed = x.deed(kind, number);
        for (int part : parts) {
            x.enclose(deed, part);
        }
        return deed;
    }

    /** Deeds k of 0 .. 13, each with the one ahead twice, visit 2^(k + 1) - 1. */
    private static NestedDeeds doubles(int meter) {
        NestedDeeds x = archive(meter);
        x.chain(14, 1, 0, 2, -1);
        return x;
    }

    private static void dueTold(NestedDeeds x, String call, int answer, int visited, int deepest, int meter) {
        due(call + ", answer()", x.answer(), answer);
        due(call + ", count(3)", x.count(3), visited);
        due(call + ", count(4)", x.count(4), way == 0 ? deepest : way == 3 ? Math.min(deepest, meter) : 0);
    }

    private static void promise9Size() {
        NestedDeeds x = archive(10);
        int leaf = x.deed(0, 1);
        int full = bound(x, 0, 2, leaf, leaf);
        int sum = bound(x, 1, 3, full, leaf, full);
        due("9 size of a leaf", x.size(leaf), 1);
        due("9 size of a leaf with parts", x.size(full), 3);
        due("9 size of shared ones", x.size(sum), 8);
        dueTold(x, "9 size", 0, 8, 3, 10);
        due("9 none such", x.size(3), NestedDeeds.BAD);
        due("9 below 0", x.size(-1), NestedDeeds.BAD);
        dueTold(x, "9 BAD", NestedDeeds.BAD, 8, 3, 10);
    }

    private static void promise9Spent() {
        NestedDeeds x = doubles(15);
        int most = bound(x, 1, 0, 13, 10, 9, 8, 4, 1, 0);
        due("9 20000 visits", x.size(most), 20000);
        dueTold(x, "9 20000 visits", 0, 20000, 15, 15);
        x.enclose(most, 0);
        due("9 20001 visits", x.size(most), NestedDeeds.SPENT);
        dueTold(x, "9 20001 visits", NestedDeeds.SPENT, 20000, 15, 15);
        due("9 a leaf behind it", x.size(0), 1);
        dueTold(x, "9 a leaf behind it", 0, 1, 1, 15);
    }

    private static void promise9Deep() {
        NestedDeeds x = archive(300);
        x.chain(400, 1, 1, 1, -1);
        due("9 depth 300", x.size(299), 300);
        dueTold(x, "9 depth 300", 0, 300, 300, 300);
        due("9 depth 301", x.size(300), way == 0 ? NestedDeeds.DEEP : 301);
        dueTold(x, "9 depth 301", way == 0 ? NestedDeeds.DEEP : 0, way == 0 ? 300 : 301, way == 0 ? 300 : 301, 300);
        x.meter(1);
        due("9 depth 1, meter 1", x.size(0), 1);
        due("9 depth 2, meter 1", x.size(1), way == 0 ? NestedDeeds.DEEP : 2);
        dueTold(x, "9 depth 2, meter 1", way == 0 ? NestedDeeds.DEEP : 0, way == 0 ? 1 : 2, way == 0 ? 1 : 2, 1);
        x.meter(300);
        x.chain(400, 1, 1, 1, 399);
        x.chain(400, 1, 1, 1, 799);
        x.chain(300, 1, 1, 1, 1199);
        due("9 depth 1500", x.size(1499), way == 0 ? NestedDeeds.DEEP : 1500);
        due("9 worth at 1500", x.worth(1499), way == 0 ? 0 : 1500);
    }

    private static void promise9SpentAheadOfDeep() {
        NestedDeeds x = doubles(15);
        int line = x.chain(15, 1, 0, 1, -1);
        int both = bound(x, 1, 0, 13, 10, 9, 8, 3, 1, 1, line);
        due("9 SPENT and DEEP at once", x.size(both), NestedDeeds.SPENT);
        dueTold(x, "9 SPENT and DEEP at once", NestedDeeds.SPENT, 20000, 15, 15);
        int deepFirst = bound(x, 1, 0, 13, 10, 9, 8, 3, 1, line, 13);
        due("9 DEEP comes first", x.size(deepFirst), way == 0 ? NestedDeeds.DEEP : NestedDeeds.SPENT);
        due("9 visited ahead of it", x.count(3), way == 0 ? 19997 : 20000);
        int spentFirst = bound(x, 1, 0, 13, 12, line);
        due("9 SPENT comes first", x.size(spentFirst), NestedDeeds.SPENT);
    }

    private static void promise10Depth() {
        NestedDeeds x = archive(4);
        int leaf = x.deed(0, 1);
        int two = bound(x, 0, 1, leaf);
        int three = bound(x, 1, 1, leaf, two, leaf);
        due("10 depth 1", x.depth(leaf), 1);
        due("10 depth 2", x.depth(two), 2);
        due("10 depth 3", x.depth(three), 3);
        dueTold(x, "10 depth 3", 0, 5, 3, 4);
        int last = x.chain(2, 1, 1, 1, three);
        due("10 depth 5", x.depth(last), way == 0 ? NestedDeeds.DEEP : 5);
        due("10 none such", x.depth(last + 1), NestedDeeds.BAD);
        NestedDeeds y = doubles(15);
        due("10 SPENT", y.depth(y.chain(1, 1, 1, 2, 13)), NestedDeeds.SPENT);
    }

    private static void promise11WorthOfSums() {
        NestedDeeds x = archive(10);
        int a = x.deed(0, 7);
        int b = x.deed(0, -3);
        int least = x.deed(0, Integer.MIN_VALUE);
        due("11 LEAF", x.worth(b), -3);
        due("11 LEAF with parts", x.worth(bound(x, 0, 9, a, b)), 9);
        due("11 its parts are not visited", x.count(3), 1);
        due("11 SUM", x.worth(bound(x, 1, 10, a, b, b)), 11);
        due("11 SUM alone", x.worth(x.deed(1, 4)), 4);
        due("11 SUM beyond ints", x.worth(bound(x, 1, Integer.MIN_VALUE, least)), 2L * Integer.MIN_VALUE);
        int square = bound(x, 2, Integer.MIN_VALUE, least);
        due("11 PRODUCT", x.worth(bound(x, 2, -2, a, b)), 42);
        due("11 PRODUCT alone", x.worth(x.deed(2, 4)), 4);
        due("11 PRODUCT wraps", x.worth(bound(x, 2, 3, square, x.deed(0, 4))), 0L);
        due("11 SUM wraps", x.worth(bound(x, 1, 0, square, square)), Long.MIN_VALUE);
        due("11 LESS", x.worth(bound(x, 3, 100, a, b, b)), 13);
        due("11 LESS of one", x.worth(bound(x, 3, 100, a)), 7);
        due("11 LESS alone", x.worth(x.deed(3, 100)), 100);
        due("11 GREATEST of parts", x.worth(bound(x, 4, 5, a, b)), 7);
        due("11 GREATEST is N", x.worth(bound(x, 4, 8, a, b)), 8);
        due("11 LEAST of parts", x.worth(bound(x, 5, 5, a, b)), -3);
        due("11 LEAST is N", x.worth(bound(x, 5, -4, a, b)), -4);
        due("11 TURN", x.worth(bound(x, 6, -2, a, b, b)), (7 * -2 - 3) * -2 - 3);
        due("11 TURN alone", x.worth(x.deed(6, 100)), 0);
    }

    private static void promise11WorthOfChoices() {
        NestedDeeds x = archive(10);
        int zero = x.deed(0, 0);
        int minus = x.deed(0, -1);
        int four = x.deed(0, 4);
        int wide = bound(x, 1, 50, zero, zero);
        due("11 CHOICE alone", x.worth(x.deed(7, 6)), 6);
        due("11 CHOICE of one part", x.worth(bound(x, 7, 6, minus)), -1);
        due("11 CHOICE of two", x.worth(bound(x, 7, 6, minus, four)), 4);
        due("11 CHOICE by -1 of three", x.worth(bound(x, 7, 6, minus, wide, zero, four)), 4);
        due("11 the others are not visited", x.count(3), 3);
        due("11 CHOICE by 4 of three", x.worth(bound(x, 7, 6, four, zero, wide, minus)), 50);
        due("11 visited with all in it", x.count(3), 5);
        due("11 CHOICE by 0", x.worth(bound(x, 7, 6, zero, minus, four)), -1);
        due("11 FIRST alone", x.worth(x.deed(8, 6)), 6);
        due("11 FIRST of zeros", x.worth(bound(x, 8, 6, zero, zero)), 6);
        due("11 all visited", x.count(3), 3);
        due("11 FIRST", x.worth(bound(x, 8, 6, zero, four, minus)), 4);
        due("11 visited until it", x.count(3), 3);
        due("11 FIRST of N 0", x.worth(bound(x, 8, 0, zero)), 0);
        due("11 that is no refusal", x.answer(), 0);
        due("11 FIRST is the first", x.worth(bound(x, 8, 6, minus, four)), -1);
        due("11 no more visited", x.count(3), 2);
        due("11 LIKE alone", x.worth(x.deed(9, 0)), 1);
        due("11 LIKE of one", x.worth(bound(x, 9, 0, four)), 1);
        due("11 LIKE of like ones", x.worth(bound(x, 9, 0, four, four, bound(x, 1, 4))), 1);
        due("11 LIKE of others", x.worth(bound(x, 9, 0, four, minus, four)), 0);
        due("11 all visited", x.count(3), 4);
    }

    private static void promise11WorthOfTheRest() {
        NestedDeeds x = archive(10);
        int one = x.deed(0, 1);
        int zero = x.deed(0, 0);
        int bits = bound(x, 10, 12, zero, one, one);
        due("11 BITS", x.worth(bits), 12 ^ 2 ^ 4);
        due("11 BITS alone", x.worth(x.deed(10, -9)), -9);
        due("11 BITS of one", x.worth(bound(x, 10, 0, one)), 1);
        int row = x.deed(10, 0);
        for (int i = 0; i < 63; i++) {
            x.enclose(row, zero);
        }
        x.enclose(row, one);
        due("11 BITS at place 63", x.worth(row), Long.MIN_VALUE);
        x.enclose(row, one);
        due("11 BITS at place 64", x.worth(row), Long.MIN_VALUE ^ 1);
        x.enclose(row, one);
        due("11 BITS at place 65", x.worth(row), Long.MIN_VALUE ^ 3);
        int minus = x.deed(0, -2);
        due("11 BITS turn around", x.worth(bound(x, 10, 0, zero, minus)), -3);
        due("11 SIZE", x.worth(bound(x, 11, -5, one, row, one)), -2);
        due("11 SIZE visits its parts", x.count(3), 1 + 1 + 67 + 1);
        due("11 SIZE beyond ints", x.worth(bound(x, 11, Integer.MAX_VALUE, one)), 1L + Integer.MAX_VALUE);
    }

    private static void promise11WorthRefused() {
        NestedDeeds x = archive(2);
        int last = x.chain(3, 1, 5, 1, -1);
        due("11 DEEP", x.worth(last), way == 0 ? 0 : 15);
        due("11 answer()", x.answer(), way == 0 ? NestedDeeds.DEEP : 0);
        due("11 BAD", x.worth(last + 1), 0);
        due("11 answer()", x.answer(), NestedDeeds.BAD);
        due("11 what is not visited is not DEEP", x.worth(bound(x, 0, 8, last)), 8);
        due("11 answer()", x.answer(), 0);
        NestedDeeds y = doubles(20);
        due("11 SPENT", y.worth(y.chain(1, 1, 1, 2, 13)), 0);
        due("11 answer()", y.answer(), NestedDeeds.SPENT);
    }

    private static long mark(int kind, int number, long... parts) {
        long h = (7 * 31 + kind) * 31L + number;
        for (long part : parts) {
            h = h * 1000003 ^ part;
        }
        return h ^ h >>> 29;
    }

    private static void promise12Mark() {
        NestedDeeds x = archive(3);
        int a = x.deed(0, Integer.MAX_VALUE);
        int b = x.deed(5, Integer.MIN_VALUE);
        int c = bound(x, 0, -1, a, b);
        int d = bound(x, 11, 6, c, c, a);
        long inner = mark(0, -1, mark(0, Integer.MAX_VALUE), mark(5, Integer.MIN_VALUE));
        due("12 mark of a leaf", x.mark(a), 6727L + Integer.MAX_VALUE ^ (6727L + Integer.MAX_VALUE) >>> 29);
        due("12 mark below 0", x.mark(b), mark(5, Integer.MIN_VALUE));
        due("12 mark of a leaf with parts", x.mark(c), inner);
        due("12 mark", x.mark(d), mark(11, 6, inner, inner, mark(0, Integer.MAX_VALUE)));
        dueTold(x, "12 mark", 0, 8, 3, 3);
        due("12 BAD", x.mark(4), 0);
        due("12 answer()", x.answer(), NestedDeeds.BAD);
        x.meter(2);
        due("12 DEEP", x.mark(d) == 0 ? 1 : 0, way == 0 ? 1 : 0);
        due("12 answer()", x.answer(), way == 0 ? NestedDeeds.DEEP : 0);
        NestedDeeds y = doubles(20);
        due("12 SPENT", y.mark(y.chain(1, 1, 1, 2, 13)), 0);
        due("12 answer()", y.answer(), NestedDeeds.SPENT);
    }

    private static void promise13Alike() {
        NestedDeeds x = archive(5);
        int a = x.deed(0, 1);
        int b = x.deed(0, 1);
        int c = x.deed(0, 2);
        int d = x.deed(1, 1);
        due("13 itself", x.alike(a, a), 1);
        due("13 like", x.alike(a, b), 1);
        due("13 another number", x.alike(a, c), 0);
        due("13 another kind", x.alike(a, d), 0);
        int e = bound(x, 1, 0, a, a, c);
        int f = bound(x, 1, 0, b, a, c);
        due("13 parts alike", x.alike(e, f), 1);
        dueTold(x, "13 parts alike", 0, 4, 2, 5);
        due("13 the number of parts", x.alike(e, bound(x, 1, 0, b, a)), 0);
        dueTold(x, "13 the number of parts", 0, 1, 1, 5);
        due("13 the first pair tells", x.alike(e, bound(x, 1, 0, d, a, c)), 0);
        dueTold(x, "13 the first pair tells", 0, 2, 2, 5);
        due("13 the last pair tells", x.alike(e, bound(x, 1, 0, a, a, a)), 0);
        dueTold(x, "13 the last pair tells", 0, 4, 2, 5);
        int g = bound(x, 2, 0, e, a);
        due("13 deeper", x.alike(g, bound(x, 2, 0, f, b)), 1);
        dueTold(x, "13 deeper", 0, 6, 3, 5);
        due("13 a shared part is not looked into", x.alike(g, bound(x, 2, 0, e, b)), 1);
        dueTold(x, "13 a shared part", 0, 3, 2, 5);
        due("13 no such a", x.alike(-1, a), NestedDeeds.BAD);
        due("13 no such b", x.alike(a, 99), NestedDeeds.BAD);
        dueTold(x, "13 BAD", NestedDeeds.BAD, 3, 2, 5);
    }

    private static void promise13AlikeStopped() {
        NestedDeeds x = archive(20);
        int a = x.chain(15, 1, 0, 2, -1);
        int b = x.chain(15, 1, 0, 2, -1);
        due("13 SPENT", x.alike(a, b), NestedDeeds.SPENT);
        dueTold(x, "13 SPENT", NestedDeeds.SPENT, 20000, 15, 20);
        due("13 itself is one visit", x.alike(a, a), 1);
        dueTold(x, "13 itself", 0, 1, 1, 20);
        x.meter(13);
        due("13 16383 pairs", x.alike(a - 1, b - 1), way == 0 ? NestedDeeds.DEEP : 1);
        due("13 visited", x.count(3), way == 0 ? 13 : 16383);
    }

    private static void promise14Write() {
        NestedDeeds x = archive(3);
        int a = x.deed(0, 0);
        int b = x.deed(11, -10);
        int c = bound(x, 1, Integer.MAX_VALUE, a, b);
        int d = bound(x, 0, Integer.MIN_VALUE, c, a);
        due("14 write(0)", x.write(a), 2);
        dueText("14 a leaf", Check.paper(x), "a0");
        due("14 write", x.write(d), 37);
        dueText("14 text", Check.paper(x), "a-2147483648(b2147483647(a0,l-10),a0)");
        dueTold(x, "14 write", 0, 5, 3, 3);
        dueText("14 below 0", Check.written(x, x.deed(2, -1)), "c-1");
        dueText("14 figures", Check.written(x, x.deed(2, 100200)), "c100200");
        due("14 BAD", x.write(99), NestedDeeds.BAD);
        dueText("14 paper stays", Check.paper(x), "c100200");
        x.meter(2);
        due("14 DEEP", x.write(d), way == 0 ? NestedDeeds.DEEP : 37);
        due("14 paper stays", x.count(2), way == 0 ? 7 : 37);
        due("14 bytes", x.count(2), Check.paper(x).length());
    }

    /** Deeds k of 0 .. 13 are written in 2, 9, 23, 51, 107, 219, 443, 891, 1787, 3579, .. bytes. */
    private static void promise14WriteFull() {
        NestedDeeds x = doubles(20);
        Check.feed(x, "old");
        int[] parts = {9, 8, 6, 4, 3, 1, 0, 0, 0, 0, 0};
        due("14 6001 bytes", x.write(bound(x, 1, 10, parts)), NestedDeeds.FULL);
        due("14 it went to its last byte", x.answer(), 0);
        due("14 all were visited", x.count(3), 1 + 1023 + 511 + 127 + 31 + 15 + 3 + 5);
        dueText("14 paper stays", Check.paper(x), "old");
        due("14 6000 bytes", x.write(bound(x, 1, 0, parts)), 6000);
        due("14 the last byte", x.byteAt(5999), ')');
        due("14 no more", x.byteAt(6000), NestedDeeds.NONE);
        due("14 more than twice as many", x.write(11), NestedDeeds.FULL);
        due("14 paper stays", x.count(2), 6000);
        due("14 too many deeds to be read", x.read(), NestedDeeds.FULL);
    }

    private static void promise14WriteDeepOrFull() {
        NestedDeeds x = doubles(20);
        int line = x.chain(20, 1, 0, 1, -1);
        int deep = bound(x, 1, 0, 9, 8, 6, 4, 1, 1, line);
        due("14 a visit comes ahead of its bytes", x.write(deep), way == 0 ? NestedDeeds.DEEP : NestedDeeds.FULL);
        int visits = 1 + 1023 + 511 + 127 + 31 + 3 + 3 + 19;
        due("14 visited", x.count(3), way == 0 ? visits : visits + 1);
        int full = bound(x, 1, 0, 9, 8, 6, 4, 0, 0, 0, 0, 0, 0, 0, line);
        due("14 a byte comes ahead of the next visit", x.write(full), NestedDeeds.FULL);
        due("14 visited", x.count(3), 1 + 1023 + 511 + 127 + 31 + 7 + 19);
        due("14 paper stays", x.count(2), 0);
    }

    private static void promise15Find() {
        NestedDeeds x = archive(5);
        int a = x.deed(0, 1);
        int b = x.deed(0, 2);
        int c = bound(x, 0, 3, a, b);
        int d = bound(x, 1, 1, b, c, a);
        due("15 itself", x.find(d, 1, 1), 0);
        dueTold(x, "15 itself", 0, 1, 1, 5);
        due("15 the first of two", x.find(d, 0, 2), 1);
        due("15 in a leaf", x.find(d, 0, 1), 3);
        dueTold(x, "15 in a leaf", 0, 4, 3, 5);
        due("15 the kind differs", x.find(d, 1, 2), NestedDeeds.NONE);
        dueTold(x, "15 none", 0, 6, 3, 5);
        due("15 no such deed", x.find(4, 0, 1), NestedDeeds.BAD);
        due("15 no such kind", x.find(d, 12, 1), NestedDeeds.BAD);
        due("15 a kind below 0", x.find(d, -1, 1), NestedDeeds.BAD);
        dueTold(x, "15 BAD", NestedDeeds.BAD, 6, 3, 5);
        x.meter(2);
        due("15 ahead of DEEP", x.find(d, 0, 3), 2);
        due("15 behind DEEP", x.find(d, 0, 9), way == 0 ? NestedDeeds.DEEP : NestedDeeds.NONE);
        NestedDeeds y = doubles(20);
        int more = y.chain(1, 2, 0, 2, 13);
        due("15 SPENT", y.find(more, 2, 1), NestedDeeds.SPENT);
        due("15 ahead of SPENT", y.find(more, 1, 0), 1);
    }

    private static void promise16Widest() {
        NestedDeeds x = archive(5);
        int a = x.deed(0, 1);
        int b = bound(x, 0, 1, a, a);
        int c = bound(x, 1, 1, b, a);
        due("16 alone", x.widest(a, 0), 1);
        due("16 alone", x.widest(a, 1), 1);
        due("16 the least depth of 2 and 3", x.widest(c, 0), 2);
        due("16 how many", x.widest(c, 1), 2);
        int d = bound(x, 1, 1, c, c);
        due("16 deeper", x.widest(d, 0), 3);
        due("16 how many", x.widest(d, 1), 4);
        dueTold(x, "16 widest", 0, 11, 4, 5);
        due("16 what 2", x.widest(d, 2), NestedDeeds.BAD);
        due("16 what -1", x.widest(d, -1), NestedDeeds.BAD);
        due("16 none such", x.widest(4, 0), NestedDeeds.BAD);
        dueTold(x, "16 BAD", NestedDeeds.BAD, 11, 4, 5);
        due("16 a walk less wide", x.widest(a, 1), 1);
        due("16 a line", x.widest(x.chain(4, 1, 1, 1, -1), 0), 1);
        x.meter(3);
        due("16 DEEP", x.widest(d, 1), way == 0 ? NestedDeeds.DEEP : 4);
        NestedDeeds y = doubles(20);
        due("16 8192", y.widest(13, 1), 8192);
        due("16 SPENT", y.widest(y.chain(1, 2, 0, 2, 13), 0), NestedDeeds.SPENT);
    }

    private static void promise17Copy() {
        NestedDeeds x = archive(5);
        int a = x.deed(0, 1);
        int b = bound(x, 1, 2, a, a);
        int c = bound(x, 2, 3, a, b);
        due("17 copy", x.copy(c), 7);
        dueTold(x, "17 copy", 0, 5, 3, 5);
        due("17 deeds", x.count(0), 8);
        due("17 parts", x.count(1), 8);
        due("17 its first part", x.part(7, 0), 3);
        due("17 its last part", x.part(7, 1), 6);
        due("17 no deed shared", x.part(6, 0), 4);
        due("17 no deed shared", x.part(6, 1), 5);
        dueText("17 as it was", Check.written(x, 7), "c3(a1,b2(a1,a1))");
        due("17 none such", x.copy(8), NestedDeeds.BAD);
        due("17 answer()", x.answer(), NestedDeeds.BAD);
        x.meter(2);
        due("17 DEEP", x.copy(c), way == 0 ? NestedDeeds.DEEP : 12);
        due("17 deeds", x.count(0), way == 0 ? 8 : 13);
        due("17 a leaf", x.copy(a), way == 0 ? 8 : 13);
    }

    private static void promise17CopyFull() {
        NestedDeeds x = archive(20);
        x.chain(10, 1, 0, 2, -1);
        due("17 1023", x.copy(9), 1032);
        due("17 too many deeds", x.copy(8), NestedDeeds.FULL);
        dueTold(x, "17 FULL", 0, 511, 9, 20);
        due("17 deeds", x.count(0), 1033);
        due("17 255", x.copy(7), 1287);
        due("17 too many for thin", x.thin(7, 0), NestedDeeds.FULL);
        due("17 too many for order", x.order(7), NestedDeeds.FULL);
        due("17 127", x.copy(6), 1414);
        due("17 63", x.copy(5), 1477);
        due("17 15", x.copy(3), 1492);
        due("17 7", x.copy(2), 1499);
        due("17 one more", x.copy(0), NestedDeeds.FULL);
        due("17 one more", x.order(0), NestedDeeds.FULL);
        due("17 deeds", x.count(0), 1500);
        NestedDeeds y = doubles(20);
        int more = y.chain(1, 1, 0, 2, 13);
        due("17 SPENT", y.copy(more), NestedDeeds.SPENT);
        due("18 SPENT", y.thin(more, 0), NestedDeeds.SPENT);
        due("19 SPENT", y.order(more), NestedDeeds.SPENT);
        due("17 FULL", y.copy(13), NestedDeeds.FULL);
        dueTold(y, "17 FULL", 0, 16383, 14, 20);
    }

    private static void promise17CopyPartsFull() {
        NestedDeeds x = archive(20);
        x.chain(400, 1, 0, 4, -1);
        x.chain(400, 1, 0, 4, -1);
        int last = x.chain(201, 1, 0, 4, -1);
        int line = x.chain(3, 1, 0, 1, -1);
        x.enclose(last, 0);
        x.enclose(last, 0);
        x.enclose(last, 0);
        due("17 3997 parts", x.count(1), 3997);
        due("17 3999 parts", x.copy(line), 1006);
        due("17 4001 parts", x.copy(line), NestedDeeds.FULL);
        due("17 4001 parts, thinned", x.thin(line, 0), NestedDeeds.FULL);
        due("17 4001 parts, in order", x.order(line), NestedDeeds.FULL);
        due("17 4000 parts", x.copy(line - 1), 1008);
        due("17 parts", x.count(1), 4000);
    }

    private static void promise18Thin() {
        NestedDeeds x = archive(5);
        int a = x.deed(0, 5);
        int b = x.deed(0, 6);
        int c = x.deed(1, 9);
        int d = bound(x, 0, 7, a);
        int e = bound(x, 1, 9, b, a, d, c, b);
        int f = bound(x, 0, 9, e, b, a);
        due("18 thin by 5", x.thin(f, 5), 10);
        dueTold(x, "18 all are visited", 0, 10, 4, 5);
        dueText("18 thin by 5", Check.written(x, 10), "a9(b9(a5,b9),a5)");
        due("18 made first", x.part(10, 0), 8);
        due("18 made next", x.part(10, 1), 9);
        dueText("18 thin by 7", Check.written(x, x.thin(e, 7)), "b9(a6,a5,a7(a5),b9,a6)");
        dueText("18 thin by the least", Check.written(x, x.thin(f, Integer.MIN_VALUE)), "a9(b9(b9))");
        dueText("18 itself stays", Check.written(x, x.thin(b, 5)), "a6");
        due("18 none such", x.thin(-1, 5), NestedDeeds.BAD);
        int deeds = x.count(0);
        x.meter(3);
        due("18 DEEP, though it is thinned out", x.thin(f, 5), way == 0 ? NestedDeeds.DEEP : deeds + 4);
        NestedDeeds y = doubles(20);
        int leaves = y.chain(12, 0, 1, 2, -1);
        int root = bound(y, 1, 0, leaves, y.part(1, 0));
        due("18 what is left has room", y.thin(root, 0), root + 2);
        due("18 visited", y.count(3), 1 + 4095 + 1);
    }

    private static void promise19Order() {
        NestedDeeds x = archive(5);
        int a = x.deed(0, 5);
        int b = x.deed(0, -7000);
        int c = bound(x, 1, 1, a, b);
        int d = bound(x, 0, 5);
        int e = bound(x, 2, 2, a, c, b, d, b);
        long markOfC = x.mark(c);
        due("19 marks of leaves", x.mark(a), 6732);
        due("19 order", x.order(e), 12);
        dueTold(x, "19 order", 0, 8, 3, 5);
        String inner = "b1(a-7000,a5)";
        String text = markOfC < x.mark(b)
            ? "c2(" + inner + ",a-7000,a-7000,a5,a5)"
            : "c2(a-7000,a-7000,a5,a5," + inner + ")";
        dueText("19 order", Check.written(x, 12), text);
        boolean inOrder = true;
        for (int i = 1; i < x.of(12, 1); i++) {
            inOrder &= x.part(12, i - 1) < x.part(12, i);
        }
        due("19 made from the first to the last", inOrder ? 1 : 0, 1);
        due("19 then the deed", x.part(12, 4), 11);
        due("19 none such", x.order(13), NestedDeeds.BAD);
        x.meter(2);
        due("19 DEEP", x.order(e), way == 0 ? NestedDeeds.DEEP : 20);
        due("19 by the marks ahead of it", orderByMarksAhead(), 1);
    }

    /** a31 and b0 have the same mark, since a kind more weighs as much as 31 in the number. */
    private static void promise19OrderOfLikeMarks() {
        NestedDeeds x = archive(5);
        int high = x.deed(0, 40);
        int a = x.deed(0, 31);
        int b = x.deed(1, 0);
        due("19 like marks", x.mark(a), x.mark(b));
        int c = bound(x, 1, 0, high, b, b, a);
        dueText("19 like ones as they stood", Check.written(x, x.order(c)), "b0(b0,b0,a31,a40)");
        int d = bound(x, 1, 0, a, high, b);
        dueText("19 like ones as they stood", Check.written(x, x.order(d)), "b0(a31,b0,a40)");
        dueText("17 a copy is not in order", Check.written(x, x.copy(c)), "b0(a40,b0,b0,a31)");
        dueText("18 nor what is thinned", Check.written(x, x.thin(c, 100)), "b0(a40,b0,b0,a31)");
        dueText("19 in order is nothing thinned", Check.written(x, x.order(c)), "b0(b0,b0,a31,a40)");
    }

    /** The parts of parts are put in order too, but that must not change by which marks they lie. */
    private static int orderByMarksAhead() {
        NestedDeeds x = archive(5);
        int low = x.deed(0, 1);
        int high = x.deed(0, 2);
        int[] sums = new int[40];
        for (int i = 0; i < sums.length; i++) {
            sums[i] = i % 2 == 0 ? bound(x, 1, i, low, high) : bound(x, 1, i, high, low);
        }
        int root = bound(x, 1, 0, sums);
        Integer[] byMark = new Integer[sums.length];
        for (int i = 0; i < sums.length; i++) {
            byMark[i] = sums[i];
        }
        java.util.Arrays.sort(byMark, java.util.Comparator.comparingLong(x::mark));
        int ordered = x.order(root);
        for (int i = 0; i < sums.length; i++) {
            if (x.of(x.part(ordered, i), 2) != x.of(byMark[i], 2)) {
                return 0;
            }
        }
        return 1;
    }
}
