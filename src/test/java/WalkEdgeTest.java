import java.util.List;

/** Of the Terms what a WALK is: SPENT, DEEP, VISITED and CALLS, by each walk and each WAY. */
public final class WalkEdgeTest {
    private static final Edge EDGE = new Edge("WalkEdgeTest");
    private static final int NONE = NestedDeeds.NONE, BAD = NestedDeeds.BAD, FULL = NestedDeeds.FULL;
    private static final int SPENT = NestedDeeds.SPENT, DEEP = NestedDeeds.DEEP;

    interface Asking {
        long ask(Archive x, int root, int twin);
    }

    interface Due {
        long of(int length, int deeds);
    }

    /** A walk, and what is due of a line of deeds b1 (its length; how many deeds there are). */
    private record Walk(String name, Asking asking, Due due) {
        /** What it answers where it is SPENT or DEEP. */
        long halted(int why) {
            return name.equals("worth") || name.equals("mark") ? 0 : why;
        }

        boolean makes() {
            return name.equals("copy") || name.equals("thin") || name.equals("order");
        }
    }

    private static final List<Walk> WALKS = List.of(
        new Walk("size", (x, root, twin) -> x.size(root), (length, deeds) -> length),
        new Walk("depth", (x, root, twin) -> x.depth(root), (length, deeds) -> length),
        new Walk("worth", (x, root, twin) -> x.worth(root), (length, deeds) -> length),
        new Walk("mark", (x, root, twin) -> x.mark(root), (length, deeds) -> markOfLine(length)),
        new Walk("alike", (x, root, twin) -> x.alike(root, twin), (length, deeds) -> 1),
        new Walk("write", (x, root, twin) -> x.write(root), (length, deeds) -> 4L * length - 2),
        new Walk("find", (x, root, twin) -> x.find(root, 1, 2), (length, deeds) -> NONE),
        new Walk("widest 0", (x, root, twin) -> x.widest(root, 0), (length, deeds) -> 1),
        new Walk("widest 1", (x, root, twin) -> x.widest(root, 1), (length, deeds) -> 1),
        new Walk("copy", (x, root, twin) -> x.copy(root), (length, deeds) -> deeds + length - 1),
        new Walk("thin", (x, root, twin) -> x.thin(root, 0), (length, deeds) -> deeds + length - 1),
        new Walk("order", (x, root, twin) -> x.order(root), (length, deeds) -> deeds + length - 1));

    public static void main(String[] args) {
        for (int way = 0; way <= 3; way++) {
            meterOfNewObject(way);
            for (int meter : new int[] {1, 2, 3, 249, 250, 251, 252, 299, 300}) {
                meterAndDepth(way, meter);
            }
            mostVisits(way);
            mostVisitsThinned(way);
            mostVisitsFound(way);
            mostVisitsCompared(way);
            bothAtOnce(way);
            whicheverComesFirst(way);
            notVisitedIsNotCounted(way);
            eachTimeVisited(way);
            asBySum(way);
        }
        deepestOfAll();
        bounds();
        latestWalk();
        EDGE.finish();
    }

    private static long markOfLine(int length) {
        long mark = 0;
        for (int i = 0; i < length; i++) {
            long h = (7 * 31 + 1) * 31 + 1;
            h = i == 0 ? h : h * 1000003 ^ mark;
            mark = h ^ h >>> 29;
        }
        return mark;
    }

    // ---- DEEP

    /** Two lines of so many b1; something on paper, so that it shows if it is changed. */
    private static void lines(Archive x, int way, int length) {
        x.way(way);
        x.chain(length, 1, 1, 1, -1);
        x.chain(length, 1, 1, 1, -1);
        x.feedText("old");
    }

    private static void dueLine(Walk walk, int way, int meter, int length, boolean setMeter) {
        String says = "DEEP where a DEPTH would be above THE METER: " + walk.name() + " by WAY " + way + ", METER "
            + meter + ", DEPTH " + length;
        Edge.Making making = x -> {
            lines(x, way, length);
            if (setMeter) {
                x.meter(meter);
            }
        };
        Edge.Call call = x -> walk.asking().ask(x, length - 1, 2 * length - 1);
        if (way == 0 && length > meter) {
            EDGE.walk(says, making, call, walk.halted(DEEP), new Edge.Told(DEEP, meter, meter));
            return;
        }
        Archive x = Edge.made(making);
        EDGE.due(says, call.on(x), walk.due().of(length, 2 * length));
        EDGE.told(says, x, new Edge.Told(0, length, Edge.calls(way, meter, length)));
    }

    private static void meterOfNewObject(int way) {
        for (Walk walk : WALKS) {
            dueLine(walk, way, 100, 100, false);
            dueLine(walk, way, 100, 101, false);
        }
    }

    private static void meterAndDepth(int way, int meter) {
        for (Walk walk : WALKS) {
            if (meter > 1) {
                dueLine(walk, way, meter, meter - 1, true);
            }
            dueLine(walk, way, meter, meter, true);
            dueLine(walk, way, meter, meter + 1, true);
        }
    }

    /** As deep as deeds can lie: 1500 in one line, or two of 750, where the walk needs another or makes more. */
    private static void deepestOfAll() {
        for (Walk walk : WALKS) {
            boolean needsTwo = walk.makes() || walk.name().equals("alike");
            for (int way = 1; way <= 3; way++) {
                dueDeepest(walk, way, needsTwo ? 750 : 1500);
            }
        }
    }

    private static int line(Archive x, int length) {
        int last = -1;
        for (int rest = length; rest > 0; rest -= 250) {
            last = x.chain(250, 1, 1, 1, last);
        }
        return last;
    }

    private static void dueDeepest(Walk walk, int way, int length) {
        String says = "by the WAYS 1, 2, 3 it never is: " + walk.name() + " by WAY " + way + ", DEPTH " + length;
        Archive x = new Archive();
        x.way(way);
        x.meter(300);
        int root = line(x, length);
        int twin = walk.name().equals("alike") ? line(x, length) : root;
        EDGE.due(says, walk.asking().ask(x, root, twin), walk.due().of(length, length));
        EDGE.told(says, x, new Edge.Told(0, length, Edge.calls(way, 300, length)));
    }

    // ---- SPENT

    private static void visits(Archive x, int way, int visits) {
        x.way(way);
        x.feedText("old");
        x.visiting(visits);
        x.visiting(visits);
    }

    private static int root(Archive x) {
        return x.count(0) / 2 - 1;
    }

    private static int twin(Archive x) {
        return x.count(0) - 1;
    }

    /** Parts of the root of 20000: doubles of 16383, 2047, 1023, 511, 31, 3 and 1. */
    private static long dueOfMostVisits(Walk walk) {
        switch (walk.name()) {
            case "size": case "worth": return 20000;
            case "depth": case "widest 0": return 15;
            case "widest 1": return 8192;
            case "find": return NONE;
            case "alike": return 1;
            case "mark": return markOfDoubles(13, 10, 9, 8, 4, 1, 0);
            default: return FULL;
        }
    }

    private static long markOfDoubles(int... parts) {
        long[] marks = new long[14];
        for (int k = 0; k < 14; k++) {
            long h = (7 * 31 + 1) * 31 + 1;
            h = k == 0 ? h : (h * 1000003 ^ marks[k - 1]) * 1000003 ^ marks[k - 1];
            marks[k] = h ^ h >>> 29;
        }
        long h = (7 * 31 + 1) * 31 + 1;
        for (int part : parts) {
            h = h * 1000003 ^ marks[part];
        }
        return h ^ h >>> 29;
    }

    private static void mostVisits(int way) {
        int calls = Edge.calls(way, 100, 15);
        for (Walk walk : WALKS) {
            // 6000 bytes are written long before 20000 are visited.
            if (walk.name().equals("write")) {
                continue;
            }
            String says = "It visits 20000 DEEDS at most: " + walk.name() + " by WAY " + way;
            Edge.Call call = x -> walk.asking().ask(x, root(x), twin(x));
            EDGE.walk(says + ", 20000", x -> visits(x, way, 20000), call, dueOfMostVisits(walk),
                new Edge.Told(0, 20000, calls));
            EDGE.walk(says + ", one more", x -> visits(x, way, 20001), call, walk.halted(SPENT),
                new Edge.Told(SPENT, 20000, calls));
        }
    }

    /** What is thinned out is visited all the same, but needs no room. */
    private static int thinned(Archive x, int way, int visits) {
        x.way(way);
        int doubles = x.chain(14, 0, 9, 2, -1) - 13;
        int root = x.deed(1, 1);
        x.encloseVisits(root, doubles, visits - 1);
        return root;
    }

    private static void mostVisitsThinned(int way) {
        String says = "It visits 20000 DEEDS at most: thin by WAY " + way + " of what is thinned out";
        Archive x = new Archive();
        int root = thinned(x, way, 20000);
        EDGE.due(says + ", 20000", x.thin(root, 8), root + 1);
        EDGE.told(says + ", 20000", x, new Edge.Told(0, 20000, Edge.calls(way, 100, 15)));
        EDGE.due(says + ", what stays", x.of(root + 1, 1), 0);
        EDGE.walk(says + ", one more", y -> thinned(y, way, 20001), y -> y.thin(14, 8), SPENT,
            new Edge.Told(SPENT, 20000, Edge.calls(way, 100, 15)));
    }

    /** So many are visited ahead of the leaf a5, which is deed 0. */
    private static int aheadOfLeaf(Archive x, int way, int ahead) {
        x.way(way);
        x.deed(0, 5);
        int root = x.visiting(ahead);
        x.enclose(root, 0);
        return root;
    }

    private static void mostVisitsFound(int way) {
        int calls = Edge.calls(way, 100, 15);
        String says = "It visits 20000 DEEDS at most: find by WAY " + way;
        EDGE.walk(says + ", it is the 20000th", x -> aheadOfLeaf(x, way, 19999), x -> x.find(15, 0, 5), 19999,
            new Edge.Told(0, 20000, calls));
        EDGE.walk(says + ", it would be the 20001st", x -> aheadOfLeaf(x, way, 20000), x -> x.find(15, 0, 5), SPENT,
            new Edge.Told(SPENT, 20000, calls));
        EDGE.walk(says + ", it is ahead of that", x -> aheadOfLeaf(x, way, 20000), x -> x.find(15, 1, 1), 0,
            new Edge.Told(0, 1, Edge.calls(way, 100, 1)));
    }

    /** Two deeds that visit so many alike ones, and then leaves that are not. */
    private static void unlikeBehind(Archive x, int way, int ahead) {
        x.way(way);
        x.deed(0, 5);
        x.deed(0, 6);
        x.enclose(x.visiting(ahead), 0);
        x.enclose(x.visiting(ahead), 1);
    }

    private static void mostVisitsCompared(int way) {
        int calls = Edge.calls(way, 100, 15);
        String says = "It visits 20000 DEEDS at most: alike by WAY " + way;
        EDGE.walk(says + ", the 20000th pair tells", x -> unlikeBehind(x, way, 19999), x -> x.alike(16, 31), 0,
            new Edge.Told(0, 20000, calls));
        EDGE.walk(says + ", the 20001st would", x -> unlikeBehind(x, way, 20000), x -> x.alike(16, 31), SPENT,
            new Edge.Told(SPENT, 20000, calls));
    }

    // ---- SPENT and DEEP

    /** A deed that visits so many, and then a line of 15, the last one at depth 16; by METER 15. */
    private static int visitsAheadOfLine(Archive x, int ahead) {
        int doubles = x.doubles();
        int line = x.chain(15, 1, 1, 1, -1);
        int root = x.deed(1, 1);
        x.encloseVisits(root, doubles, ahead - 1);
        x.enclose(root, line);
        return root;
    }

    private static void twinsAheadOfLine(Archive x, int way, int ahead) {
        x.way(way);
        x.meter(15);
        x.feedText("old");
        visitsAheadOfLine(x, ahead);
        visitsAheadOfLine(x, ahead);
    }

    private static void bothAtOnce(int way) {
        int deepest = way == 0 ? 15 : 16;
        for (Walk walk : WALKS) {
            if (walk.name().equals("write")) {
                continue;
            }
            String says = walk.name() + " by WAY " + way;
            Edge.Call call = x -> walk.asking().ask(x, root(x), twin(x));
            EDGE.walk("A visit that would be both is SPENT: " + says, x -> twinsAheadOfLine(x, way, 19986), call,
                walk.halted(SPENT), new Edge.Told(SPENT, 20000, Edge.calls(way, 15, 15)));
            EDGE.walk("SPENT alone, a visit sooner: " + says, x -> twinsAheadOfLine(x, way, 19987), call,
                walk.halted(SPENT), new Edge.Told(SPENT, 20000, Edge.calls(way, 15, 15)));
            Edge.Making deepAlone = x -> twinsAheadOfLine(x, way, 19985);
            if (way == 0) {
                EDGE.walk("DEEP alone, a visit later: " + says, deepAlone, call, walk.halted(DEEP),
                    new Edge.Told(DEEP, 19999, deepest));
                continue;
            }
            Archive x = Edge.made(deepAlone);
            call.on(x);
            EDGE.told("never DEEP: " + says, x, new Edge.Told(0, 20000, Edge.calls(way, 15, deepest)));
        }
    }

    private static int lineAndVisits(Archive x, int way, boolean lineFirst) {
        x.way(way);
        x.meter(15);
        int doubles = x.doubles();
        int line = x.chain(15, 1, 1, 1, -1);
        return lineFirst
            ? x.bound(1, 1, line, doubles + 13, doubles + 12)
            : x.bound(1, 1, doubles + 13, doubles + 12, line);
    }

    private static void whicheverComesFirst(int way) {
        String says = "SPENT or DEEP, whichever comes first: ";
        for (Walk walk : WALKS) {
            if (walk.name().equals("write") || walk.name().equals("alike")) {
                continue;
            }
            Edge.Call call = x -> walk.asking().ask(x, 29, 29);
            int why = way == 0 ? DEEP : SPENT;
            Edge.Told told = way == 0 ? new Edge.Told(DEEP, 15, 15)
                : new Edge.Told(SPENT, 20000, Edge.calls(way, 15, 16));
            EDGE.walk(says + "DEEP, " + walk.name() + " by WAY " + way, x -> lineAndVisits(x, way, true), call,
                walk.halted(why), told);
            EDGE.walk(says + "SPENT, " + walk.name() + " by WAY " + way, x -> lineAndVisits(x, way, false), call,
                walk.halted(SPENT), new Edge.Told(SPENT, 20000, Edge.calls(way, 15, 15)));
        }
    }

    /** Deed 15 visits 20001 down to depth 15; what a walk does not come to makes it neither SPENT nor DEEP. */
    private static void notVisitedIsNotCounted(int way) {
        Edge.Making making = x -> {
            x.way(way);
            x.meter(2);
            x.deed(0, 3);
            x.visiting(20001);
            x.bound(0, 8, 15);
            x.bound(7, 8, 0, 15, 0);
            x.bound(8, 8, 0, 15);
            x.bound(1, 1, 15);
        };
        String says = "then, as told, PARTS, by WAY " + way + ": ";
        Edge.Told two = new Edge.Told(0, 2, Edge.calls(way, 2, 2));
        Edge.Told one = new Edge.Told(0, 1, Edge.calls(way, 2, 1));
        EDGE.walk(says + "none of a LEAF", making, x -> x.worth(16), 8, one);
        EDGE.walk(says + "those of a CHOICE", making, x -> x.worth(17), 3,
            new Edge.Told(0, 3, Edge.calls(way, 2, 2)));
        EDGE.walk(says + "those of a FIRST", making, x -> x.worth(18), 3, two);
        EDGE.walk(says + "none of a DEED and itself", making, x -> x.alike(15, 15), 1, one);
        EDGE.walk(says + "none of unlike ones", making, x -> x.alike(15, 19), 0, one);
        EDGE.walk(says + "none behind what is found", making, x -> x.find(17, 0, 3), 1, two);
    }

    private static void eachTimeVisited(int way) {
        String says = "a DEED that is come to several times is visited each time, by WAY " + way;
        Archive x = new Archive();
        x.way(way);
        int part = x.bound(1, 1, x.deed(0, 1), 0);
        int root = x.bound(1, 1, part, 0, part, part);
        EDGE.due(says, x.size(root), 11);
        EDGE.told(says, x, new Edge.Told(0, 11, Edge.calls(way, 100, 3)));
        EDGE.due(says + ": the DEED alone is at DEPTH 1", x.depth(0), 1);
        EDGE.told(says + ": the DEED alone", x, new Edge.Told(0, 1, Edge.calls(way, 100, 1)));
    }

    /** Root and both its parts are of one kind, each part with a leaf in it; and a twin of them all: 5 visits. */
    private static void family(Archive x, int way, int kind) {
        x.way(way);
        for (int i = 0; i < 2; i++) {
            int zero = x.deed(0, 0);
            int part = x.bound(kind, 1, zero);
            x.bound(kind, 1, part, part);
        }
    }

    private static void asBySum(int way) {
        for (int kind = 0; kind <= 11; kind++) {
            int k = kind;
            for (Walk walk : WALKS) {
                if (walk.name().equals("worth")) {
                    continue;
                }
                Archive x = Edge.made(y -> family(y, way, k));
                String says = "(as by SUM): " + walk.name() + " of KIND " + kind + " by WAY " + way;
                long got = walk.asking().ask(x, 2, 5);
                EDGE.told(says, x, new Edge.Told(0, 5, Edge.calls(way, 100, 3)));
                if (walk.name().equals("size") || walk.name().equals("depth")) {
                    EDGE.due(says, got, walk.name().equals("size") ? 5 : 3);
                }
            }
        }
    }

    // ---- THE METER, the WAYS, and what is told

    private static void bounds() {
        for (int meter : new int[] {0, -1, 301, Integer.MIN_VALUE, Integer.MAX_VALUE}) {
            EDGE.refused("THE METER (1 .. 300): " + meter, x -> lines(x, 3, 3), x -> x.meter(meter), BAD);
        }
        for (int way : new int[] {-1, 4, Integer.MIN_VALUE, Integer.MAX_VALUE}) {
            EDGE.refused("WAY 0 .. 3: " + way, x -> lines(x, 3, 3), x -> x.way(way), BAD);
        }
        for (int way = 0; way <= 3; way++) {
            int taken = way;
            EDGE.taken("WAY 0 .. 3: that which it was", x -> x.way(taken), x -> x.way(0), taken);
        }
        EDGE.taken("THE METER (1 .. 300): 1", x -> x.meter(1), x -> x.meter(300), 1);
        EDGE.taken("THE METER (1 .. 300): 300", x -> x.meter(300), x -> x.meter(1), 300);
    }

    private static void latestWalk() {
        String says = "VISITED and CALLS of the latest WALK";
        Archive x = new Archive();
        lines(x, 0, 9);
        x.size(8);
        EDGE.told(says, x, new Edge.Told(0, 9, 9));
        x.way(3);
        x.meter(4);
        EDGE.told(says + ", not of WAY and METER from then on", x, new Edge.Told(0, 9, 9));
        x.size(2);
        EDGE.told(says + ", also of one that is less deep", x, new Edge.Told(0, 3, 3));
        x.size(8);
        EDGE.told(says + ", THE METER at most", x, new Edge.Told(0, 9, 4));
        x.size(18);
        EDGE.told(says + ", that was not BAD", x, new Edge.Told(BAD, 9, 4));
        x.way(2);
        x.size(3);
        EDGE.told(says + ", by WAY 2 none", x, new Edge.Told(0, 4, 0));
    }
}
