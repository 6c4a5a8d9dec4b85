/** The document's beginning, and of its Terms what a DEED is: each bound at its last value and at the first beyond. */
public final class TermsEdgeTest {
    private static final Edge EDGE = new Edge("TermsEdgeTest");
    private static final int BAD = NestedDeeds.BAD, ELDER = NestedDeeds.ELDER, FULL = NestedDeeds.FULL;

    public static void main(String[] args) {
        numberedFromZero();
        lastDeedByEachMaker();
        lastTwoDeedsByEachMaker();
        chainUpToTheLastDeed();
        callsAtMost();
        callsBehindTheLast();
        kinds();
        numbers();
        partsInOrder();
        elderParts();
        lastPartByEachMaker();
        lastTwoPartsByEachMaker();
        chainUpToTheLastPart();
        noPartsNeedNoRoom();
        EDGE.finish();
    }

    private static void numberedFromZero() {
        String says = "DEEDS are numbered from 0 as they are made";
        EDGE.taken(says + ": deed", x -> { }, x -> x.deed(0, 0), 0);
        EDGE.taken(says + ": chain of 1", x -> { }, x -> x.chain(1, 0, 0, 1, -1), 0);
        EDGE.taken(says + ": chain of 3", x -> { }, x -> x.chain(3, 0, 0, 1, -1), 2);
        EDGE.taken(says + ": read", x -> x.feedText("a1"), Archive::read, 0);
        Archive x = new Archive();
        x.deed(0, 0);
        x.deed(12, 0);
        x.chain(0, 0, 0, 1, -1);
        x.read();
        x.copy(9);
        EDGE.due(says + ": a refused call takes none", x.deed(0, 0), 1);
        EDGE.due(says + ": the next by chain", x.chain(2, 0, 0, 1, -1), 3);
        EDGE.due(says + ": the next by copy", x.copy(0), 4);
        EDGE.due(says + ": the next by thin", x.thin(0, 0), 5);
        EDGE.due(says + ": the next by order", x.order(0), 6);
    }

    private static void dueDeeds(String maker, int more, Edge.Call call) {
        String says = "1500 DEEDS at most: " + maker;
        EDGE.taken(says + ", up to the 1500th", x -> fillDeeds(x, 1500 - more), call, 1499);
        EDGE.refused(says + ", a 1501st", x -> fillDeeds(x, 1501 - more), call, FULL);
    }

    private static void dueDeedsOfWalk(String maker, int more, Edge.Call call) {
        String says = "1500 DEEDS at most: " + maker;
        EDGE.taken(says + ", up to the 1500th", x -> fillDeeds(x, 1500 - more), call, 1499);
        EDGE.walk(says + ", a 1501st", x -> fillDeeds(x, 1501 - more), call, FULL, new Edge.Told(0, more, more));
    }

    private static void fillDeeds(Archive x, int deeds) {
        x.fillDeeds(deeds);
        x.feedText(deeds == 1500 ? "a1" : "b1(a2)");
        x.size(1);
    }

    private static void lastDeedByEachMaker() {
        dueDeeds("deed", 1, x -> x.deed(11, 5));
        dueDeeds("chain", 1, x -> x.chain(1, 0, 0, 4, -1));
        dueDeeds("chain with a first", 1, x -> x.chain(1, 0, 0, 4, 0));
        dueDeedsOfWalk("copy", 1, x -> x.copy(0));
        dueDeedsOfWalk("thin", 1, x -> x.thin(0, 0));
        dueDeedsOfWalk("order", 1, x -> x.order(0));
        EDGE.taken("1500 DEEDS at most: read, the 1500th", x -> {
            x.fillDeeds(1499);
            x.feedText("a1");
        }, Archive::read, 1499);
        EDGE.refused("1500 DEEDS at most: read, a 1501st", x -> fillDeeds(x, 1500), Archive::read, FULL);
    }

    private static void lastTwoDeedsByEachMaker() {
        dueDeeds("chain of 2", 2, x -> x.chain(2, 0, 0, 1, -1));
        dueDeeds("read of 2", 2, Archive::read);
        dueDeedsOfWalk("copy of 2", 2, x -> x.copy(1));
        dueDeedsOfWalk("thin of 2", 2, x -> x.thin(1, 0));
        dueDeedsOfWalk("order of 2", 2, x -> x.order(1));
        Edge.Told told = new Edge.Told(0, 2, 2);
        Archive x = Edge.made(y -> y.fillDeeds(1499));
        EDGE.due("1500 DEEDS at most: thin of 2, of which 1 stays", x.thin(1, -1), 1499);
        EDGE.told("1500 DEEDS at most: thin of 2, of which 1 stays", x, told);
    }

    private static void chainUpToTheLastDeed() {
        dueDeeds("chain of 400", 400, x -> x.chain(400, 0, 0, 1, 0));
    }

    private static void callsAtMost() {
        String says = "An object is used for at most 512 calls";
        Archive x = new Archive();
        for (int i = 1; i < Archive.MOST_CALLS; i++) {
            x.deed(0, i);
        }
        EDGE.due(says + ": the 512th makes a DEED", x.deed(0, 512), 511);
        for (int way = 0; way <= 3; way++) {
            Archive y = new Archive();
            y.way(way);
            int root = y.visiting(20000);
            while (y.callsLeft() > 1) {
                y.mark(root);
            }
            EDGE.due(says + ": the 512th walks by WAY " + way, y.worth(root), 20000);
        }
    }

    private static void callsBehindTheLast() {
        NestedDeeds x = new NestedDeeds();
        for (int i = 0; i < 3000; i++) {
            x.deed(i % 12, i);
            x.enclose(i, i - 1);
            x.order(i);
            x.feed(i, 8);
        }
        EDGE.due("later calls are free, but they end", x.count(0) <= 1500 ? 1 : 0, 1);
    }

    private static void threeDeeds(Archive x) {
        x.bound(1, 5, x.deed(0, 4), x.deed(0, 3));
        x.feedText("abc");
        x.way(3);
        x.meter(7);
        x.size(2);
    }

    private static void kinds() {
        String says = "A DEED has a KIND (0 .. 11)";
        for (int kind = 0; kind <= 11; kind++) {
            int k = kind;
            EDGE.taken(says + ": deed of " + k, x -> x.deed(k, 0), x -> x.of(0, 0), k);
            EDGE.taken(says + ": chain of " + k, x -> x.chain(2, k, 0, 1, -1), x -> x.of(1, 0), k);
        }
        for (int kind : new int[] {-1, 12, 13, 255, Integer.MIN_VALUE, Integer.MAX_VALUE}) {
            EDGE.refused(says + ": deed of " + kind, TermsEdgeTest::threeDeeds, x -> x.deed(kind, 0), BAD);
            EDGE.refused(says + ": chain of " + kind, TermsEdgeTest::threeDeeds, x -> x.chain(1, kind, 0, 1, -1), BAD);
        }
    }

    private static void numbers() {
        for (int number : new int[] {0, -1, Integer.MIN_VALUE, Integer.MAX_VALUE}) {
            String says = "a NUMBER (an int): " + number;
            EDGE.taken(says, x -> x.deed(3, number), x -> x.of(0, 2), number);
            EDGE.taken(says + " of a chain", x -> x.chain(2, 3, number, 1, -1), x -> x.of(0, 2), number);
            EDGE.taken(says + " of a copy", x -> x.copy(x.deed(3, number)), x -> x.of(1, 2), number);
        }
    }

    private static void partsInOrder() {
        String says = "PARTS in order";
        Archive x = new Archive();
        x.chain(4, 1, 0, 1, -1);
        int[] parts = {2, 0, 3, 0, 0, 1};
        int deed = x.bound(1, 0, parts);
        for (int i = 0; i < parts.length; i++) {
            EDGE.due(says + ": PART " + i, x.part(deed, i), parts[i]);
        }
        EDGE.due(says + ": PARTS of several", x.enclose(x.deed(1, 0), 2), 1);
        EDGE.due(says + ": a PART behind younger DEEDS were made", x.enclose(deed, 3), 7);
        EDGE.due(says + ": it is the last one", x.part(deed, 6), 3);
        EDGE.due(says + ": the younger one keeps its own", x.part(deed + 1, 0), 2);
        EDGE.due(says + ": the elder one keeps its own", x.part(3, 0), 2);
    }

    private static void elderParts() {
        String says = "elder DEEDS (by lesser numbers)";
        EDGE.taken(says + ": the next lesser", TermsEdgeTest::threeDeeds, x -> x.enclose(1, 0), 1);
        EDGE.taken(says + ": the least", TermsEdgeTest::threeDeeds, x -> x.enclose(2, 0), 3);
        EDGE.refused(says + ": itself", TermsEdgeTest::threeDeeds, x -> x.enclose(1, 1), ELDER);
        EDGE.refused(says + ": the least and itself", TermsEdgeTest::threeDeeds, x -> x.enclose(0, 0), ELDER);
        EDGE.refused(says + ": the next greater", TermsEdgeTest::threeDeeds, x -> x.enclose(1, 2), ELDER);
        EDGE.refused(says + ": the greatest", TermsEdgeTest::threeDeeds, x -> x.enclose(0, 2), ELDER);
    }

    private static void dueParts(String maker, int more, Edge.Call call, long answer) {
        String says = "4000 PARTS at most: " + maker;
        Edge.Making last = x -> fillParts(x, 4000 - more);
        EDGE.taken(says + ", up to the 4000th", last, call, answer);
        EDGE.taken(says + ", all PARTS then", Edge.with(last, call), x -> x.count(1), 4000);
        EDGE.refused(says + ", a 4001st", x -> fillParts(x, 4001 - more), call, FULL);
    }

    private static void dueDeedOfParts(String maker, int more, int deeds, Edge.Call call) {
        dueParts(maker, more, call, Edge.made(x -> fillParts(x, 4000 - more)).count(0) + deeds - 1);
    }

    private static void dueWalkOfParts(String maker, int more, Edge.Call call, Edge.Told told) {
        String says = "4000 PARTS at most: " + maker;
        Edge.Making last = x -> fillParts(x, 4000 - more);
        EDGE.taken(says + ", up to the 4000th", Edge.with(last, call), x -> x.count(1), 4000);
        EDGE.walk(says + ", a 4001st", x -> fillParts(x, 4001 - more), call, FULL, told);
    }

    private static void fillParts(Archive x, int parts) {
        x.fillParts(parts);
        x.feedText("b1(a2)");
        x.size(1);
    }

    private static void lastPartByEachMaker() {
        Edge.Told two = new Edge.Told(0, 2, 2);
        dueParts("enclose", 1, x -> x.enclose(1, 0), 2);
        dueDeedOfParts("chain of 2", 1, 2, x -> x.chain(2, 1, 0, 1, -1));
        dueDeedOfParts("chain of 1 with a first", 1, 1, x -> x.chain(1, 1, 0, 1, 0));
        dueDeedOfParts("read", 1, 2, Archive::read);
        dueWalkOfParts("copy", 1, x -> x.copy(1), two);
        dueWalkOfParts("thin", 1, x -> x.thin(1, 0), two);
        dueWalkOfParts("order", 1, x -> x.order(1), two);
        Archive x = Edge.made(y -> fillParts(y, 4000));
        int deeds = x.count(0);
        EDGE.due("4000 PARTS at most: what is thinned out needs no room", x.thin(1, -1), deeds);
    }

    private static void lastTwoPartsByEachMaker() {
        dueDeedOfParts("chain of 3", 2, 3, x -> x.chain(3, 1, 0, 1, -1));
        dueDeedOfParts("chain of 1 with a first, twice", 2, 1, x -> x.chain(1, 1, 0, 2, 0));
        dueDeedOfParts("chain of 2, twice", 2, 2, x -> x.chain(2, 1, 0, 2, -1));
    }

    private static void chainUpToTheLastPart() {
        dueDeedOfParts("chain of 400 with a first, 4 times", 1600, 400, x -> x.chain(400, 1, 0, 4, 0));
        dueDeedOfParts("chain of 400, 4 times", 1596, 400, x -> x.chain(400, 1, 0, 4, -1));
    }

    private static void noPartsNeedNoRoom() {
        String says = "4000 PARTS at most: a DEED without PARTS is made beside them";
        int deeds = Edge.made(x -> x.fillParts(4000)).count(0);
        EDGE.taken(says + ", deed", x -> x.fillParts(4000), x -> x.deed(0, 0), deeds);
        EDGE.taken(says + ", chain", x -> x.fillParts(4000), x -> x.chain(1, 0, 0, 4, -1), deeds);
        EDGE.taken(says + ", copy", x -> x.fillParts(4000), x -> x.copy(0), deeds);
        EDGE.taken(says + ", order", x -> x.fillParts(4000), x -> x.order(0), deeds);
        EDGE.taken(says + ", read", x -> {
            x.fillParts(4000);
            x.feedText("a1");
        }, Archive::read, deeds);
        EDGE.taken("1500 DEEDS at most: a PART is enclosed beside them", x -> x.fillDeeds(1500),
            x -> x.enclose(1499, 0), 2);
    }
}
