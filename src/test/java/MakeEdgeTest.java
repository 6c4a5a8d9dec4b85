import java.util.HashSet;
import java.util.Set;

/** COPIED, THINNED and IN ORDER at their edges, by each WAY. */
public final class MakeEdgeTest {
    private static final Edge EDGE = new Edge("MakeEdgeTest");
    private static final int BAD = NestedDeeds.BAD, FULL = NestedDeeds.FULL;
    private static final int LEAST = Integer.MIN_VALUE, GREATEST = Integer.MAX_VALUE;
    private static int way;

    public static void main(String[] args) {
        for (way = 0; way <= 3; way++) {
            copiedAnew();
            copiedInTurn();
            thinnedAtT();
            thinnedByKind();
            thinnedWithAllInThem();
            thinnedItselfStays();
            inOrderRising();
            inOrderAsLongs();
            inOrderLikeOnes();
            inOrderWithin();
            inOrderByMarksAhead();
            inOrderMadeInTurn();
            visitedOnce();
            fullOfMany();
            fullThinned();
            bad();
        }
        EDGE.finish();
    }

    private static Archive archive() {
        Archive x = new Archive();
        x.way(way);
        return x;
    }

    /** An archive whose latest deed is as in a text. */
    private static Archive of(String text) {
        Archive x = archive();
        x.feedText(text);
        x.read();
        return x;
    }

    private static int latest(Archive x) {
        return x.count(0) - 1;
    }

    private static void dueText(String says, String got, String want) {
        EDGE.dueText(says + ", by WAY " + way, got, want);
    }

    private static void dueCopied(String text) {
        Archive x = of(text);
        int deeds = x.count(0);
        EDGE.due("COPIED: the new DEED of " + text, x.copy(deeds - 1), 2 * deeds - 1);
        dueText("COPIED", x.textOf(2 * deeds - 1), text);
    }

    private static void dueThinned(String says, String text, int t, String want) {
        Archive x = of(text);
        dueText("THINNED by a number t: " + says, x.textOf(x.thin(latest(x), t)), want);
    }

    private static void dueOrdered(String says, String text, String want) {
        Archive x = of(text);
        dueText("IN ORDER: " + says, x.textOf(x.order(latest(x))), want);
    }

    // ---- COPIED

    private static void copiedAnew() {
        dueCopied("a0");
        dueCopied("l-2147483648");
        dueCopied("b1(a2)");
        dueCopied("a1(a2(a3(a4)))");
        dueCopied("b1(c2(a3,a4),d5,e6(f7(g8),h9))");
        Archive x = archive();
        int shared = x.bound(1, 2, x.deed(0, 1), 0);
        int root = x.bound(2, 3, shared, 0, shared, shared);
        EDGE.due("COPIED: with no DEED shared", x.copy(root), root + 11);
        dueUnshared(x, root + 1, root + 11);
        EDGE.due("COPIED: what was copied stays", x.part(root, 3), shared);
        dueText("COPIED: what was copied stays", x.textOf(root), "c3(b2(a1,a1),a1,b2(a1,a1),b2(a1,a1))");
        dueText("COPIED", x.textOf(root + 11), "c3(b2(a1,a1),a1,b2(a1,a1),b2(a1,a1))");
    }

    /** Each new deed but the last is a part of one new deed, once. */
    private static void dueUnshared(Archive x, int from, int last) {
        Set<Integer> parts = new HashSet<>();
        int all = 0;
        for (int deed = from; deed <= last; deed++) {
            int n = x.of(deed, 1);
            all += n;
            for (int i = 0; i < n; i++) {
                int part = x.part(deed, i);
                EDGE.due("COPIED: a PART is new", part >= from && part < last ? 1 : 0, 1);
                parts.add(part);
            }
        }
        EDGE.due("COPIED: PARTS", all, last - from);
        EDGE.due("COPIED: none is shared", parts.size(), last - from);
    }

    private static void duePart(String says, Archive x, int deed, int i, int part) {
        EDGE.due(says + ": PART " + i + " of " + deed + ", by WAY " + way, x.part(deed, i), part);
    }

    private static void copiedInTurn() {
        String says = "its PARTS are made first, from the first to the last, each with all in it, then the DEED";
        Archive x = of("b1(c2(a3,a4),d5,e6(f7))");
        EDGE.due(says, x.copy(6), 13);
        duePart(says, x, 9, 0, 7);
        duePart(says, x, 9, 1, 8);
        duePart(says, x, 13, 0, 9);
        duePart(says, x, 13, 1, 10);
        duePart(says, x, 12, 0, 11);
        duePart(says, x, 13, 2, 12);
        EDGE.due(says + ": a copy of a copy", x.copy(13), 20);
    }

    // ---- THINNED

    private static void thinnedAtT() {
        String says = "without LEAVES whose NUMBER is above t: ";
        dueThinned(says + "t less", "b9(a3,a4,a5)", 2, "b9");
        dueThinned(says + "t the least of them", "b9(a3,a4,a5)", 3, "b9(a3)");
        dueThinned(says + "t between", "b9(a5,a3,a4)", 4, "b9(a3,a4)");
        dueThinned(says + "t the greatest of them", "b9(a3,a4,a5)", 5, "b9(a3,a4,a5)");
        dueThinned(says + "below 0", "b9(a-3,a-4,a0)", -4, "b9(a-4)");
        dueThinned(says + "t the least int", "b9(a-2147483648,a-2147483647,a0)", LEAST, "b9(a-2147483648)");
        dueThinned(says + "t the greatest int", "b9(a2147483647,a-1)", GREATEST, "b9(a2147483647,a-1)");
        dueThinned(says + "t one less than that", "b9(a2147483647,a2147483646)", GREATEST - 1, "b9(a2147483646)");
    }

    private static void thinnedByKind() {
        for (char kind = 'b'; kind <= 'l'; kind++) {
            String text = "b9(" + kind + "9,a3," + kind + "9(a3))";
            dueThinned("LEAVES (KIND 0) alone, not " + kind, text, 3, text);
        }
    }

    private static void thinnedWithAllInThem() {
        dueThinned("and what is in them", "b9(a4(b1,a1(c2)),a3)", 3, "b9(a3)");
        dueThinned("of a LEAF that stays", "b9(a3(a4,b1(a4),a3),a4)", 3, "b9(a3(b1,a3))");
        dueThinned("at each DEPTH", "b1(b2(b3(a9,b4(a9)),a9),a9)", 0, "b1(b2(b3(b4)))");
        Archive x = of("b9(a4(b1,a1(c2)),a3,a5)");
        int root = latest(x);
        EDGE.due("THINNED: the new DEED", x.thin(root, 3), root + 2);
        duePart("THINNED: PARTS are made first", x, root + 2, 0, root + 1);
        EDGE.due("THINNED: DEEDS in all", x.count(0), root + 3);
        EDGE.due("THINNED: what was thinned stays", x.of(root, 1), 3);
    }

    private static void thinnedItselfStays() {
        dueThinned("(the DEED itself stays): alone", "a4", 3, "a4");
        dueThinned("(the DEED itself stays): its LEAVES do not", "a4(a4,a3)", 3, "a4(a3)");
        dueThinned("(the DEED itself stays): and what else is in it", "a4(b9(a3,a5),a3)", 3, "a4(b9(a3),a3)");
        dueThinned("(the DEED itself stays): the least t", "a0", LEAST, "a0");
    }

    // ---- IN ORDER

    private static void inOrderRising() {
        dueOrdered("without PARTS", "c5", "c5");
        dueOrdered("of one", "c5(a2)", "c5(a2)");
        dueOrdered("rising, as they are", "c5(a1,a2,a3)", "c5(a1,a2,a3)");
        dueOrdered("rising", "c5(a3,a2,a1)", "c5(a1,a2,a3)");
        dueOrdered("rising", "c5(a2,a3,a1,a5,a4)", "c5(a1,a2,a3,a4,a5)");
        dueOrdered("the least is the last", "c5(a2,a3,a4,a1)", "c5(a1,a2,a3,a4)");
        dueOrdered("the greatest is the first", "c5(a4,a1,a2,a3)", "c5(a1,a2,a3,a4)");
        dueOrdered("by MARKS, not by NUMBERS", "c5(b0,a32,b2,a30)", "c5(a30,b0,a32,b2)");
    }

    /** The MARKS of b95(a0,a0,a0) and b58(a0,a0,a0) lie farther apart than a long can tell. */
    private static void inOrderAsLongs() {
        dueOrdered("below 0 first", "c5(a0,a-6728)", "c5(a-6728,a0)");
        dueOrdered("below 0, rising", "c5(a-2147483648,a-6728)", "c5(a-6728,a-2147483648)");
        dueOrdered("as longs, not as ints", "c5(b0(a0),a0)", "c5(a0,b0(a0))");
        dueOrdered("as longs, far apart", "c5(b58(a0,a0,a0),a0,b95(a0,a0,a0))", "c5(b95(a0,a0,a0),a0,b58(a0,a0,a0))");
    }

    /** a31 and b0 have one MARK, since a KIND more weighs as much as 31 in the NUMBER. */
    private static void inOrderLikeOnes() {
        String says = "like ones as they stood";
        dueOrdered(says, "c5(a31,b0)", "c5(a31,b0)");
        dueOrdered(says, "c5(b0,a31)", "c5(b0,a31)");
        dueOrdered(says, "c5(a31,a31,b0,b0)", "c5(a31,a31,b0,b0)");
        dueOrdered(says, "c5(b0,b0,a31)", "c5(b0,b0,a31)");
        dueOrdered(says, "c5(a40,b0,a31,a2)", "c5(a2,b0,a31,a40)");
        dueOrdered(says, "c5(a31,a40,b0,a2)", "c5(a2,a31,b0,a40)");
        Archive x = archive();
        int a = x.deed(0, 31);
        int b = x.deed(1, 0);
        int part = x.bound(1, 0, a, b);
        int root = x.bound(2, 5, part, part, part);
        dueText("IN ORDER: " + says + ", of a DEED that is come to again", x.textOf(x.order(root)),
            "c5(b0(a31,b0),b0(a31,b0),b0(a31,b0))");
    }

    /** a1(a9,a8) has a greater MARK than a3, as it has PARTS; a2(a1(a9,a8),a3) has one below 0. */
    private static void inOrderWithin() {
        dueOrdered("PARTS of each", "c5(a3(a2,a1),a2(a1(a9,a8),a3))", "c5(a2(a3,a1(a8,a9)),a3(a1,a2))");
        dueOrdered("a line", "c5(c5(c5(a2,a1)))", "c5(c5(c5(a1,a2)))");
        Archive x = of("c5(a3,a2,b1(a2,a1))");
        int root = latest(x);
        x.order(root);
        dueText("IN ORDER: what was put in order stays", x.textOf(root), "c5(a3,a2,b1(a2,a1))");
    }

    /** The MARK of b0(a1,a0) is below that of b0(a0,a2), but that of b0(a0,a1) above it. */
    private static void inOrderByMarksAhead() {
        String says = "by the MARKS that they have ahead of it";
        dueOrdered(says, "c5(b0(a0,a2),b0(a1,a0))", "c5(b0(a0,a1),b0(a0,a2))");
        dueOrdered(says, "c5(b0(a0,a1),b0(a0,a2))", "c5(b0(a0,a2),b0(a0,a1))");
    }

    private static void inOrderMadeInTurn() {
        String says = "IN ORDER: likewise, PARTS are made first, from the first to the last, then the DEED";
        Archive x = of("c5(a3,b1(a2,a1),a0)");
        int root = latest(x);
        EDGE.due(says, x.order(root), root + 6);
        for (int i = 0; i < 2; i++) {
            duePart(says, x, root + 6, i, root + 1 + i);
        }
        duePart(says, x, root + 6, 2, root + 5);
        duePart(says, x, root + 5, 0, root + 3);
        duePart(says, x, root + 5, 1, root + 4);
        EDGE.due(says + ": the first is the least", x.of(root + 1, 2), 0);
        EDGE.due(says + ": within, too", x.of(root + 3, 2), 1);
    }

    // ---- all three

    private static void visitedOnce() {
        Edge.Told told = new Edge.Told(0, 8, Edge.calls(way, 100, 4));
        String says = "Visited are all, as by SUM, once; by WAY " + way;
        Archive x = of("c5(a9(a8(a7)),b1(a2,a1),a0)");
        int root = latest(x);
        x.copy(root);
        EDGE.told(says + ": copy", x, told);
        x.thin(root, 0);
        EDGE.told(says + ": thin", x, told);
        x.order(root);
        EDGE.told(says + ": order", x, told);
    }

    /** Deed 9 of the doubles visits 1023: beside 477 deeds these have room, beside 478 not. */
    private static void room(Archive x, int deeds) {
        x.way(way);
        x.doubles();
        for (int rest = deeds - 14; rest > 0; rest -= 400) {
            x.chain(Math.min(rest, 400), 1, 0, 1, -1);
        }
        x.feedText("old");
    }

    private static void dueFull(String says, Edge.Call call) {
        EDGE.taken("then FULL: " + says + ", 1500 DEEDS", x -> room(x, 477), call, 1499);
        EDGE.walk("then FULL: " + says + ", too many DEEDS", x -> room(x, 478), call, FULL,
            new Edge.Told(0, 1023, Edge.calls(way, 100, 10)));
    }

    private static void fullOfMany() {
        dueFull("copy", x -> x.copy(9));
        dueFull("thin", x -> x.thin(9, LEAST));
        dueFull("order", x -> x.order(9));
        EDGE.walk("then FULL: more than ever", x -> room(x, 14), x -> x.copy(13), FULL,
            new Edge.Told(0, 16383, Edge.calls(way, 100, 14)));
    }

    /** 1497 deeds are made: there is room for the root and the two leaves that stay. */
    private static void fullThinned() {
        Edge.Making making = x -> {
            x.way(way);
            int stays = x.deed(0, 3);
            int goes = x.bound(0, 4, stays, stays);
            x.bound(1, 0, stays, goes, goes, stays);
            x.chain(400, 1, 0, 1, -1);
            x.chain(400, 1, 0, 1, -1);
            x.chain(400, 1, 0, 1, -1);
            x.chain(294, 1, 0, 1, -1);
        };
        EDGE.taken("THINNED: what is thinned out needs no room", making, x -> x.thin(2, 3), 1499);
        EDGE.walk("THINNED: what stays needs room", making, x -> x.thin(2, 4), FULL,
            new Edge.Told(0, 9, Edge.calls(way, 100, 3)));
    }

    private static void bad() {
        Edge.Making making = x -> {
            x.way(way);
            x.bound(1, 0, x.deed(0, 1));
            x.size(1);
        };
        for (int none : new int[] {-1, 2, LEAST, GREATEST}) {
            EDGE.badWalk("copy: BAD " + none, making, x -> x.copy(none), BAD);
            EDGE.badWalk("thin: BAD " + none, making, x -> x.thin(none, 0), BAD);
            EDGE.badWalk("order: BAD " + none, making, x -> x.order(none), BAD);
        }
    }
}
