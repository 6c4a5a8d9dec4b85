/** The edges that promises 1 to 25 name of their own calls, and which refusal comes first: BAD, ELDER, FULL. */
public final class CallEdgeTest {
    private static final Edge EDGE = new Edge("CallEdgeTest");
    private static final int NONE = NestedDeeds.NONE, BAD = NestedDeeds.BAD, ELDER = NestedDeeds.ELDER;
    private static final int FULL = NestedDeeds.FULL, SPENT = NestedDeeds.SPENT, DEEP = NestedDeeds.DEEP;
    private static final int LEAST = Integer.MIN_VALUE, GREATEST = Integer.MAX_VALUE;

    public static void main(String[] args) {
        newObject();
        deed();
        enclose();
        chainLength();
        chainTimes();
        chainFirst();
        wayAndMeter();
        of();
        part();
        noSuchDeed();
        nothingYet();
        feed();
        feedFull();
        tear();
        byteAt();
        answer();
        answerOfFull();
        count();
        badAheadOfElder();
        badAheadOfFull();
        elderAheadOfFull();
        badAheadOfSpentAndDeep();
        spentAndDeepAheadOfFull();
        EDGE.finish();
    }

    /** Deeds a4, a3, b5(a4,a3); bytes abc; WAY 3, METER 7; a walk of 3. */
    private static void three(Archive x) {
        x.bound(1, 5, x.deed(0, 4), x.deed(0, 3));
        x.feedText("abc");
        x.way(3);
        x.meter(7);
        x.size(2);
    }

    private static void refused(String says, Edge.Call call, long answer) {
        EDGE.refused(says, CallEdgeTest::three, call, answer);
    }

    private static void taken(String says, Edge.Call call, long answer) {
        EDGE.taken(says, CallEdgeTest::three, call, answer);
    }

    private static void newObject() {
        Edge.Making making = x -> { };
        for (int what = 0; what <= 4; what++) {
            int w = what;
            EDGE.taken("1 No DEEDS, an empty PAPER, no WALK: count(" + w + ")", making, x -> x.count(w), 0);
        }
        EDGE.taken("1 an empty PAPER", making, Archive::tear, 0);
        EDGE.taken("1 an empty PAPER", making, x -> x.byteAt(0), NONE);
        EDGE.taken("1 WAY 0", making, x -> x.way(2), 0);
        EDGE.taken("1 THE METER 100", making, x -> x.meter(2), 100);
        EDGE.taken("1 no WALK", making, Archive::answer, 0);
        Archive first = new Archive();
        three(first);
        EDGE.taken("1 nothing of another object", making, x -> x.count(0), 0);
        EDGE.due("1 another object keeps its own", first.count(0), 3);
    }

    private static void deed() {
        taken("2 A DEED without PARTS: its number", x -> x.deed(11, 6), 3);
        taken("2 A DEED without PARTS", x -> x.of(x.deed(11, 6), 1), 0);
        refused("2 BAD: KIND", x -> x.deed(12, 6), BAD);
        refused("2 BAD: KIND", x -> x.deed(-1, 6), BAD);
        EDGE.refused("2 FULL", x -> x.fillDeeds(1500), x -> x.deed(0, 6), FULL);
    }

    private static void enclose() {
        taken("3 One more PART of a DEED: how many it has", x -> x.enclose(1, 0), 1);
        taken("3 One more PART of a DEED: how many it has", x -> x.enclose(2, 1), 3);
        for (int none : new int[] {-1, 3, LEAST, GREATEST}) {
            refused("3 BAD: DEED " + none, x -> x.enclose(none, 0), BAD);
            refused("3 BAD: PART " + none, x -> x.enclose(2, none), BAD);
        }
        refused("3 ELDER", x -> x.enclose(2, 2), ELDER);
        EDGE.refused("3 FULL", x -> x.fillParts(4000), x -> x.enclose(1, 0), FULL);
    }

    private static void chainLength() {
        taken("4 n DEEDS (1 .. 400): 1", x -> x.chain(1, 0, 0, 1, -1), 3);
        taken("4 n DEEDS (1 .. 400): 2", x -> x.chain(2, 0, 0, 1, -1), 4);
        taken("4 n DEEDS (1 .. 400): 400", x -> x.chain(400, 0, 0, 1, -1), 402);
        for (int n : new int[] {0, -1, 401, LEAST, GREATEST}) {
            refused("4 n DEEDS (1 .. 400): " + n, x -> x.chain(n, 0, 0, 1, -1), BAD);
        }
    }

    private static void chainTimes() {
        for (int times = 1; times <= 4; times++) {
            int t = times;
            String says = "4 so many times (1 .. 4): " + t;
            Edge.Making making = x -> {
                three(x);
                x.chain(3, 6, -8, t, 1);
            };
            for (int deed = 3; deed <= 5; deed++) {
                int d = deed;
                EDGE.taken(says + ", PARTS of " + d, making, x -> x.of(d, 1), t);
                EDGE.taken(says + ", the last PART of " + d, making, x -> x.part(d, t - 1), d == 3 ? 1 : d - 1);
                EDGE.taken(says + ", KIND of " + d, making, x -> x.of(d, 0), 6);
                EDGE.taken(says + ", NUMBER of " + d, making, x -> x.of(d, 2), -8);
            }
        }
        for (int times : new int[] {0, -1, 5, LEAST, GREATEST}) {
            refused("4 so many times (1 .. 4): " + times, x -> x.chain(2, 0, 0, times, -1), BAD);
            refused("4 so many times (1 .. 4), also of 1: " + times, x -> x.chain(1, 0, 0, times, -1), BAD);
        }
    }

    private static void chainFirst() {
        taken("4 the first one with a DEED (-1: none)", x -> x.of(x.chain(1, 0, 0, 4, -1), 1), 0);
        taken("4 the first one with a DEED: the first", x -> x.part(x.chain(1, 0, 0, 1, 0), 0), 0);
        taken("4 the first one with a DEED: the last", x -> x.part(x.chain(1, 0, 0, 1, 2), 0), 2);
        for (int none : new int[] {-2, 3, LEAST, GREATEST}) {
            refused("4 the first one with a DEED: " + none, x -> x.chain(1, 0, 0, 1, none), BAD);
        }
        refused("4 BAD: KIND", x -> x.chain(1, 12, 0, 1, -1), BAD);
        EDGE.refused("4 FULL: all or none", x -> x.fillDeeds(1400), x -> x.chain(101, 0, 0, 1, -1), FULL);
        EDGE.refused("4 FULL: all or none", x -> x.fillParts(3900), x -> x.chain(26, 0, 0, 4, 0), FULL);
        EDGE.taken("4 up to FULL", x -> x.fillDeeds(1400), x -> x.chain(100, 0, 0, 1, -1), 1499);
    }

    private static void wayAndMeter() {
        taken("5 WAY: that which it was", x -> x.way(0), 3);
        taken("6 THE METER: that which it was", x -> x.meter(1), 7);
        Archive x = new Archive();
        int[] ways = {0, 3, 1, 1, 2, 0};
        int[] meters = {100, 300, 1, 1, 299, 2};
        for (int i = 1; i < ways.length; i++) {
            EDGE.due("5 WAY " + ways[i] + " from now on", x.way(ways[i]), ways[i - 1]);
            EDGE.due("6 THE METER " + meters[i], x.meter(meters[i]), meters[i - 1]);
        }
        refused("5 BAD: 4", y -> y.way(4), BAD);
        refused("5 BAD: -1", y -> y.way(-1), BAD);
        refused("6 BAD: 0", y -> y.meter(0), BAD);
        refused("6 BAD: 301", y -> y.meter(301), BAD);
    }

    private static void of() {
        taken("7 Of a DEED: 0 KIND", x -> x.of(2, 0), 1);
        taken("7 Of a DEED: 1 how many PARTS", x -> x.of(2, 1), 2);
        taken("7 Of a DEED: 2 NUMBER", x -> x.of(2, 2), 5);
        for (int none : new int[] {-1, 3, LEAST, GREATEST}) {
            refused("7 The least int: BAD, what " + none, x -> x.of(2, none), LEAST);
            refused("7 The least int: BAD, DEED " + none, x -> x.of(none, 0), LEAST);
        }
        refused("7 it changes nothing", x -> x.of(2, 1), 2);
    }

    private static void part() {
        taken("8 PART i of a DEED: the first", x -> x.part(2, 0), 0);
        taken("8 PART i of a DEED: the last", x -> x.part(2, 1), 1);
        for (int none : new int[] {-1, 2, LEAST, GREATEST}) {
            refused("8 BAD: i " + none, x -> x.part(2, none), BAD);
        }
        for (int none : new int[] {-1, 3, LEAST, GREATEST}) {
            refused("8 BAD: DEED " + none, x -> x.part(none, 0), BAD);
        }
        refused("8 BAD: of a DEED without PARTS", x -> x.part(0, 0), BAD);
        EDGE.refused("8 BAD: not the first PART of the next DEED", x -> {
            x.bound(1, 0, x.deed(0, 0));
            x.bound(1, 0, 0);
        }, x -> x.part(1, 1), BAD);
        refused("8 it changes nothing", x -> x.part(2, 1), 1);
    }

    private static void dueNoSuch(Edge.Making making, int none) {
        String says = "walks (BAD): DEED " + none + ": ";
        EDGE.badWalk(says + "9 size", making, x -> x.size(none), BAD);
        EDGE.badWalk(says + "10 depth", making, x -> x.depth(none), BAD);
        EDGE.badWalk(says + "11 worth", making, x -> x.worth(none), 0);
        EDGE.badWalk(says + "12 mark", making, x -> x.mark(none), 0);
        EDGE.badWalk(says + "13 alike", making, x -> x.alike(none, none), BAD);
        EDGE.badWalk(says + "14 write", making, x -> x.write(none), BAD);
        EDGE.badWalk(says + "15 find", making, x -> x.find(none, 0, 0), BAD);
        EDGE.badWalk(says + "16 widest", making, x -> x.widest(none, 0), BAD);
        EDGE.badWalk(says + "16 widest", making, x -> x.widest(none, 1), BAD);
        EDGE.badWalk(says + "17 copy", making, x -> x.copy(none), BAD);
        EDGE.badWalk(says + "18 thin", making, x -> x.thin(none, 0), BAD);
        EDGE.badWalk(says + "19 order", making, x -> x.order(none), BAD);
    }

    private static void noSuchDeed() {
        for (int none : new int[] {-1, 3, 1500, LEAST, GREATEST}) {
            dueNoSuch(CallEdgeTest::three, none);
        }
    }

    private static void nothingYet() {
        dueNoSuch(x -> { }, 0);
        EDGE.refused("3 BAD on a new object", x -> { }, x -> x.enclose(0, 0), BAD);
        EDGE.refused("4 BAD on a new object", x -> { }, x -> x.chain(1, 0, 0, 1, 0), BAD);
        EDGE.refused("7 BAD on a new object", x -> { }, x -> x.of(0, 0), LEAST);
        EDGE.refused("8 BAD on a new object", x -> { }, x -> x.part(0, 0), BAD);
    }

    // ---- paper

    private static void feed() {
        long w = 0xf1e2d3c4b5a69788L;
        int[] bytes = {0xf1, 0xe2, 0xd3, 0xc4, 0xb5, 0xa6, 0x97, 0x88};
        for (int n = 1; n <= 8; n++) {
            int count = n;
            taken("20 The n lowest bytes of w: " + n, x -> x.feed(w, count), 3 + n);
            Archive x = Edge.made(y -> {
                three(y);
                y.feed(w, count);
            });
            for (int i = 0; i < n; i++) {
                EDGE.due("20 the highest first: byte " + i + " of " + n, x.byteAt(3 + i), bytes[8 - n + i]);
            }
            EDGE.due("20 come behind what is on PAPER", x.byteAt(2), 'c');
            EDGE.due("20 and no more", x.byteAt(3 + n), NONE);
        }
        for (int n : new int[] {0, -1, 9, LEAST, GREATEST}) {
            refused("20 BAD: n " + n, x -> x.feed(w, n), BAD);
        }
    }

    /** So many bytes on paper, written, since 512 calls cannot feed them. */
    private static void bytes(Archive x, int bytes) {
        int doubles = x.doubles();
        x.write(x.bound(1, 1, x.writing(doubles, bytes - 3)));
    }

    private static void feedFull() {
        for (int n = 1; n <= 8; n++) {
            int count = n;
            EDGE.taken("20 up to 6000: " + n, x -> bytes(x, 6000 - count), x -> x.feed(-1, count), 6000);
            EDGE.taken("20 up to 6000: the last", x -> {
                bytes(x, 6000 - count);
                x.feed(0xfe, count);
            }, x -> x.byteAt(5999), 0xfe);
            EDGE.refused("20 FULL: a 6001st by " + n, x -> bytes(x, 6001 - count), x -> x.feed(-1, count), FULL);
        }
        EDGE.refused("20 FULL: all or none", x -> bytes(x, 6000), x -> x.feed(-1, 8), FULL);
        EDGE.taken("20 torn, there is room", x -> {
            bytes(x, 6000);
            x.tear();
        }, x -> x.feed(-1, 8), 8);
    }

    private static void tear() {
        EDGE.refused("21 an empty PAPER: how many bytes it had", x -> { }, Archive::tear, 0);
        taken("21 how many bytes it had", Archive::tear, 3);
        EDGE.taken("21 how many bytes it had: 6000", x -> bytes(x, 6000), Archive::tear, 6000);
        Archive x = Edge.made(Edge.with(CallEdgeTest::three, Archive::tear));
        EDGE.due("21 PAPER is empty", x.count(2), 0);
        EDGE.due("21 PAPER is empty", x.byteAt(0), NONE);
        EDGE.due("21 PAPER is empty", x.tear(), 0);
        EDGE.due("21 DEEDS stay", x.count(0), 3);
        EDGE.told("21 it is no WALK", x, new Edge.Told(0, 3, 2));
    }

    private static void byteAt() {
        taken("22 Byte i of PAPER: the first", x -> x.byteAt(0), 'a');
        taken("22 Byte i of PAPER: the last", x -> x.byteAt(2), 'c');
        for (int none : new int[] {-1, 3, 5999, 6000, LEAST, GREATEST}) {
            refused("22 NONE: " + none, x -> x.byteAt(none), NONE);
        }
        for (int value = 0; value <= 255; value++) {
            int v = value;
            EDGE.taken("22 (0 .. 255)", x -> x.feed(v, 1), x -> x.byteAt(0), v);
        }
        EDGE.taken("22 the 6000th", x -> bytes(x, 6000), x -> x.byteAt(5999), ')');
        EDGE.taken("22 NONE behind the 6000th", x -> bytes(x, 6000), x -> x.byteAt(6000), NONE);
        refused("22 it changes nothing", x -> x.byteAt(1), 'b');
    }

    // ---- told

    private static void dueAnswer(String says, Archive x, int answer) {
        EDGE.due("24 " + says, x.answer(), answer);
        EDGE.due("24 " + says + ", asked again", x.answer(), answer);
    }

    private static void answer() {
        Archive x = new Archive();
        dueAnswer("0: there was none", x, 0);
        x.enclose(0, 0);
        x.of(0, 0);
        x.deed(12, 0);
        x.read();
        x.feed(0, 9);
        x.count(5);
        dueAnswer("refused calls that are no WALKS are none", x, 0);
        x.size(0);
        dueAnswer("also one that was refused with BAD", x, BAD);
        int line = x.chain(101, 1, 0, 1, -1);
        x.way(0);
        x.of(0, 0);
        x.tear();
        dueAnswer("calls that are no WALKS leave it", x, BAD);
        x.size(line);
        dueAnswer("DEEP", x, DEEP);
        x.size(line - 1);
        dueAnswer("0 it went to its end", x, 0);
        x.worth(x.visiting(20001));
        dueAnswer("SPENT", x, SPENT);
        x.find(line, 1, 0);
        dueAnswer("0, where it ended as it was found", x, 0);
        x.mark(-1);
        x.alike(line, 0);
        dueAnswer("0, where it ended as they are unlike", x, 0);
        x.find(line, 1, 1);
        dueAnswer("DEEP of find", x, DEEP);
        x.worth(0);
        dueAnswer("0 of a worth that is 0", x, 0);
    }

    private static void answerOfFull() {
        Archive x = new Archive();
        int root = x.visiting(20000);
        x.size(-1);
        EDGE.due("24 FULL of copy", x.copy(root), FULL);
        dueAnswer("0 it went to its end, or FULL: copy", x, 0);
        x.size(-1);
        EDGE.due("24 FULL of thin", x.thin(root, 0), FULL);
        dueAnswer("0 it went to its end, or FULL: thin", x, 0);
        x.size(-1);
        EDGE.due("24 FULL of order", x.order(root), FULL);
        dueAnswer("0 it went to its end, or FULL: order", x, 0);
        x.size(-1);
        EDGE.due("24 FULL of write", x.write(root), FULL);
        dueAnswer("0 it went to its end, or FULL: write", x, 0);
    }

    private static void count() {
        int[] due = {3, 2, 3, 3, 2};
        for (int what = 0; what <= 4; what++) {
            int w = what;
            taken("25 count(" + w + ")", x -> x.count(w), due[w]);
            refused("25 it changes nothing", x -> x.count(w), due[w]);
        }
        for (int what : new int[] {-1, 5, LEAST, GREATEST}) {
            refused("25 BAD: " + what, x -> x.count(what), BAD);
        }
        EDGE.taken("25 VISITED: 0 without one", x -> x.size(0), x -> x.count(3), 0);
        EDGE.taken("25 CALLS: 0 without one", x -> x.size(0), x -> x.count(4), 0);
        Edge.Making bad = x -> {
            three(x);
            x.worth(3);
        };
        EDGE.taken("25 VISITED of the latest WALK that was not BAD", bad, x -> x.count(3), 3);
        EDGE.taken("25 CALLS of the latest WALK that was not BAD", bad, x -> x.count(4), 2);
        EDGE.taken("25 0 DEEDS: 1500", x -> x.fillDeeds(1500), x -> x.count(0), 1500);
        EDGE.taken("25 1 all PARTS: 4000", x -> x.fillParts(4000), x -> x.count(1), 4000);
        EDGE.taken("25 2 bytes of PAPER: 6000", x -> bytes(x, 6000), x -> x.count(2), 6000);
    }

    // ---- the first that fits

    private static void badAheadOfElder() {
        String says = "the first that fits: BAD, ELDER: ";
        refused(says + "a DEED that is not, with one that would be younger", x -> x.enclose(-1, 0), BAD);
        refused(says + "a PART that is not, and would be younger", x -> x.enclose(0, 3), BAD);
        refused(says + "neither is, both are one", x -> x.enclose(3, 3), BAD);
    }

    private static void badAheadOfFull() {
        String says = "the first that fits: BAD, FULL: ";
        Edge.Making deeds = x -> x.fillDeeds(1500);
        Edge.Making parts = x -> x.fillParts(4000);
        EDGE.refused(says + "deed", deeds, x -> x.deed(12, 0), BAD);
        EDGE.refused(says + "chain of n", deeds, x -> x.chain(401, 0, 0, 1, -1), BAD);
        EDGE.refused(says + "chain of a KIND", deeds, x -> x.chain(1, 12, 0, 1, -1), BAD);
        EDGE.refused(says + "chain of times", deeds, x -> x.chain(1, 0, 0, 5, -1), BAD);
        EDGE.refused(says + "chain of a first", deeds, x -> x.chain(1, 0, 0, 1, 1500), BAD);
        EDGE.refused(says + "chain, PARTS", parts, x -> x.chain(400, 0, 0, 5, 0), BAD);
        EDGE.refused(says + "enclose a DEED", parts, x -> x.enclose(1500, 0), BAD);
        EDGE.refused(says + "enclose a PART", parts, x -> x.enclose(1, -1), BAD);
        EDGE.refused(says + "feed", x -> bytes(x, 6000), x -> x.feed(0, 9), BAD);
        EDGE.badWalk(says + "copy", deeds, x -> x.copy(1500), BAD);
        EDGE.badWalk(says + "thin", deeds, x -> x.thin(-1, 0), BAD);
        EDGE.badWalk(says + "order", deeds, x -> x.order(1500), BAD);
        EDGE.badWalk(says + "write", x -> bytes(x, 6000), x -> x.write(-1), BAD);
    }

    private static void elderAheadOfFull() {
        String says = "the first that fits: ELDER, FULL: ";
        EDGE.refused(says + "itself", x -> x.fillParts(4000), x -> x.enclose(1, 1), ELDER);
        EDGE.refused(says + "a younger one", x -> x.fillParts(4000), x -> x.enclose(0, 1), ELDER);
    }

    private static void badAheadOfSpentAndDeep() {
        String says = "BAD, though the WALK would be SPENT or DEEP: ";
        Edge.Making spent = x -> x.visiting(20001);
        Edge.Making deep = x -> {
            x.meter(1);
            x.chain(15, 1, 0, 1, -1);
        };
        for (Edge.Making making : new Edge.Making[] {spent, deep}) {
            EDGE.badWalk(says + "find", making, x -> x.find(14, 12, 0), BAD);
            EDGE.badWalk(says + "widest", making, x -> x.widest(14, 2), BAD);
            EDGE.badWalk(says + "alike", making, x -> x.alike(14, 15), BAD);
        }
    }

    private static void spentAndDeepAheadOfFull() {
        String says = "DEEDS are made behind the WALK; then FULL: ";
        Edge.Making spent = x -> {
            x.visiting(20001);
            x.chain(400, 0, 0, 1, -1);
            x.chain(400, 0, 0, 1, -1);
            x.chain(400, 0, 0, 1, -1);
            x.chain(285, 0, 0, 1, -1);
        };
        Edge.Told told = new Edge.Told(SPENT, 20000, 15);
        EDGE.walk(says + "SPENT copy", spent, x -> x.copy(14), SPENT, told);
        EDGE.walk(says + "SPENT thin", spent, x -> x.thin(14, 0), SPENT, told);
        EDGE.walk(says + "SPENT order", spent, x -> x.order(14), SPENT, told);
        Edge.Making deep = x -> {
            x.fillDeeds(1500);
            x.meter(1);
        };
        Edge.Told first = new Edge.Told(DEEP, 1, 1);
        EDGE.walk(says + "DEEP copy", deep, x -> x.copy(1), DEEP, first);
        EDGE.walk(says + "DEEP thin", deep, x -> x.thin(1, -1), DEEP, first);
        EDGE.walk(says + "DEEP order", deep, x -> x.order(1), DEEP, first);
    }
}
