/** WORTH by each KIND (without PARTS, with one, with more; wrapping, modulo) and MARK; by each WAY. */
public final class WorthEdgeTest {
    private static final Edge EDGE = new Edge("WorthEdgeTest");
    private static final int LEAST = Integer.MIN_VALUE, GREATEST = Integer.MAX_VALUE;

    interface Building {
        int in(Archive x);
    }

    public static void main(String[] args) {
        longsOfTurns();
        leaf();
        sum();
        product();
        less();
        greatest();
        least();
        turn();
        choiceOfFew();
        choiceModulo();
        choiceOfLongs();
        first();
        like();
        bits();
        bitsByPlace();
        size();
        markAlone();
        markOfParts();
        zeroIsAnAnswer();
        EDGE.finish();
    }

    /** A worth, and how many are visited for it, by each WAY. */
    private static void due(String says, Building building, long worth, int visited) {
        for (int way = 0; way <= 3; way++) {
            Archive x = new Archive();
            x.way(way);
            int deed = building.in(x);
            EDGE.due(says + ", by WAY " + way, x.worth(deed), worth);
            EDGE.due(says + ", by WAY " + way + ": answer()", x.answer(), 0);
            EDGE.due(says + ", by WAY " + way + ": VISITED", x.count(3), visited);
            x.mark(deed);
            EDGE.due(says + ", behind another WALK", x.worth(deed), worth);
            EDGE.due(says + ", behind another WALK: VISITED", x.count(3), visited);
        }
    }

    /** A deed with leaves of such numbers. */
    private static Building leaves(int kind, int number, int... worths) {
        return x -> {
            int[] parts = new int[worths.length];
            for (int i = 0; i < parts.length; i++) {
                parts[i] = x.deed(0, worths[i]);
            }
            return x.bound(kind, number, parts);
        };
    }

    private static void dueLeaves(String says, int kind, int number, long worth, int... worths) {
        due(says, leaves(kind, number, worths), worth, 1 + worths.length);
    }

    /** Any long is the worth of a TURN by 65536 of four leaves: five visits. */
    private static int ofWorth(Archive x, long worth) {
        int[] parts = new int[4];
        for (int i = 0; i < 4; i++) {
            parts[i] = x.deed(0, (int) (worth >>> 48 - 16 * i) & 65535);
        }
        return x.bound(6, 65536, parts);
    }

    private static Building longs(int kind, int number, long... worths) {
        return x -> {
            int[] parts = new int[worths.length];
            for (int i = 0; i < parts.length; i++) {
                parts[i] = ofWorth(x, worths[i]);
            }
            return x.bound(kind, number, parts);
        };
    }

    private static void dueLongs(String says, int kind, int number, long worth, long... worths) {
        due(says, longs(kind, number, worths), worth, 1 + 5 * worths.length);
    }

    private static void longsOfTurns() {
        for (long worth : new long[] {0, 1, -1, 1L << 32, Long.MIN_VALUE, Long.MAX_VALUE}) {
            due("6 TURN: r N + w, wrapping: " + worth, x -> ofWorth(x, worth), worth, 5);
        }
    }

    private static void leaf() {
        for (int number : new int[] {0, 1, -1, LEAST, GREATEST}) {
            due("0 LEAF: N", x -> x.deed(0, number), number, 1);
            due("0 LEAF: PARTS are not visited", leaves(0, number, 5, 6), number, 1);
        }
    }

    private static void sum() {
        String says = "1 SUM: N and all w: ";
        dueLeaves(says + "without PARTS", 1, -7, -7);
        dueLeaves(says + "of one", 1, -7, -2, 5);
        dueLeaves(says + "of all", 1, 1, 1 + 2 + 4 + 8, 2, 4, 8);
        dueLeaves(says + "above ints", 1, GREATEST, 2L * GREATEST, GREATEST);
        dueLeaves(says + "below ints", 1, LEAST, 2L * LEAST, LEAST);
        dueLongs(says + "the greatest long", 1, 1, Long.MAX_VALUE, Long.MAX_VALUE - 1);
        dueLongs(says + "wrapping up", 1, 1, Long.MIN_VALUE, Long.MAX_VALUE);
        dueLongs(says + "the least long", 1, -1, Long.MIN_VALUE, Long.MIN_VALUE + 1);
        dueLongs(says + "wrapping down", 1, -1, Long.MAX_VALUE, Long.MIN_VALUE);
    }

    private static void product() {
        String says = "2 PRODUCT: N times all w: ";
        dueLeaves(says + "without PARTS", 2, -7, -7);
        dueLeaves(says + "of one", 2, -7, -35, 5);
        dueLeaves(says + "of all", 2, 2, 2 * 3 * 5 * 7, 3, 5, 7);
        dueLeaves(says + "all are visited behind a 0", 2, 2, 0, 0, 5, 7);
        dueLeaves(says + "above ints", 2, LEAST, 1L << 62, LEAST);
        dueLeaves(says + "wrapping", 2, LEAST, Long.MIN_VALUE, LEAST, 2);
        dueLeaves(says + "wrapping to 0", 2, LEAST, 0, LEAST, 4);
        dueLongs(says + "the least long times -1", 2, -1, Long.MIN_VALUE, Long.MIN_VALUE);
    }

    private static void less() {
        String says = "3 LESS: w(1) less each other one, N without PARTS: ";
        dueLeaves(says + "without PARTS", 3, 100, 100);
        dueLeaves(says + "of one", 3, 100, 7, 7);
        dueLeaves(says + "of two", 3, 100, 5, 7, 2);
        dueLeaves(says + "of all", 3, 100, 7 - 2 - 30 + 1, 7, 2, 30, -1);
        dueLongs(says + "the least long", 3, 9, Long.MIN_VALUE, Long.MIN_VALUE + 1, 1);
        dueLongs(says + "wrapping", 3, 9, Long.MAX_VALUE, Long.MIN_VALUE, 1);
    }

    private static void greatest() {
        String says = "4 GREATEST of N and all w: ";
        dueLeaves(says + "without PARTS", 4, -7, -7);
        dueLeaves(says + "N by one", 4, 6, 6, 5);
        dueLeaves(says + "N is the same", 4, 5, 5, 5);
        dueLeaves(says + "w by one", 4, 4, 5, 5);
        dueLeaves(says + "the first", 4, -9, 7, 7, 6, -1);
        dueLeaves(says + "the last", 4, -9, 7, -1, 6, 7);
        dueLongs(says + "as longs", 4, GREATEST, 1L << 32, 1L << 32);
        dueLongs(says + "of the greatest and the least long", 4, 0, Long.MAX_VALUE, Long.MIN_VALUE, Long.MAX_VALUE);
        dueLongs(says + "N, above the least long", 4, LEAST, LEAST, Long.MIN_VALUE);
    }

    private static void least() {
        String says = "5 LEAST of N and all w: ";
        dueLeaves(says + "without PARTS", 5, 7, 7);
        dueLeaves(says + "N by one", 5, 4, 4, 5);
        dueLeaves(says + "w by one", 5, 6, 5, 5);
        dueLeaves(says + "the first", 5, 9, -7, -7, 6, -1);
        dueLeaves(says + "the last", 5, 9, -7, -1, 6, -7);
        dueLongs(says + "as longs", 5, LEAST, -1L << 32, -1L << 32);
        dueLongs(says + "of the greatest and the least long", 5, 0, Long.MIN_VALUE, Long.MAX_VALUE, Long.MIN_VALUE);
        dueLongs(says + "N, below the greatest long", 5, GREATEST, GREATEST, Long.MAX_VALUE);
    }

    private static void turn() {
        String says = "6 TURN: r is 0, for each w it becomes r N + w: ";
        dueLeaves(says + "without PARTS", 6, 7, 0);
        dueLeaves(says + "of one", 6, 7, 5, 5);
        dueLeaves(says + "of all", 6, 10, 123, 1, 2, 3);
        dueLeaves(says + "by a N below 0", 6, -10, 1 * 100 - 2 * 10 + 3, 1, 2, 3);
        dueLeaves(says + "by 0 the last w", 6, 0, 3, 1, 2, 3);
        dueLeaves(says + "by 1 all w", 6, 1, 6, 1, 2, 3);
        dueLeaves(says + "wrapping", 6, LEAST, 5, 4, 0, 5);
    }

    private static void choiceOfFew() {
        String says = "7 CHOICE: ";
        due(says + "without PARTS N", leaves(7, 6), 6, 1);
        due(says + "with one PART w(1)", leaves(7, 6, -3), -3, 2);
        due(says + "with one PART w(1), also 0", leaves(7, 6, 0), 0, 2);
        for (int w : new int[] {0, 1, -1, 2, GREATEST, LEAST}) {
            due(says + "with two the other one", leaves(7, 6, w, 40), 40, 3);
        }
        due(says + "w(1) is looked at first, with all in it", x -> {
            int ahead = x.bound(1, 0, x.deed(0, 1), x.deed(0, 1));
            return x.bound(7, 6, ahead, x.deed(0, 40), x.deed(0, 41), x.bound(1, 42, 0, 0, 0));
        }, 45, 8);
        due(says + "PART 0 may be chosen again, if it stands there again", x -> {
            int one = x.deed(0, 1);
            return x.bound(7, 6, one, x.deed(0, 40), one);
        }, 1, 3);
    }

    private static void choiceModulo() {
        String says = "7 CHOICE: (w(1) modulo n - 1, not below 0) from 0, w(1) ";
        int[] of = {-7, -6, -5, -4, -3, -2, -1, 0, 1, 2, 3, 4, 5, 6, GREATEST, LEAST};
        int[] told = {42, 40, 41, 42, 40, 41, 42, 40, 41, 42, 40, 41, 42, 40, 41, 41};
        for (int i = 0; i < of.length; i++) {
            due(says + of[i], leaves(7, 6, of[i], 40, 41, 42), told[i], 3);
        }
    }

    private static void choiceOfLongs() {
        String says = "7 CHOICE: modulo of a long, ";
        long[] of = {Long.MIN_VALUE, Long.MAX_VALUE, 1L << 32, (1L << 32) - 1, -1L << 32, Long.MIN_VALUE + 1};
        int[] told = {41, 41, 41, 40, 42, 42};
        for (int i = 0; i < of.length; i++) {
            long w = of[i];
            due(says + w, x -> x.bound(7, 6, ofWorth(x, w), x.deed(0, 40), x.deed(0, 41), x.deed(0, 42)), told[i], 7);
        }
    }

    private static void first() {
        String says = "8 FIRST: PARTS are visited until one has a w that is not 0: ";
        due(says + "without PARTS N", leaves(8, 6), 6, 1);
        due(says + "of one 0 N", leaves(8, 6, 0), 6, 2);
        due(says + "of all 0 N", leaves(8, 6, 0, 0, 0), 6, 4);
        due(says + "the first", leaves(8, 6, 5, 4), 5, 2);
        due(says + "the next", leaves(8, 6, 0, 5, 4), 5, 3);
        due(says + "the last", leaves(8, 6, 0, 0, 5), 5, 4);
        due(says + "also below 0", leaves(8, 6, 0, -1, 4), -1, 3);
        due(says + "N 0", leaves(8, 0, 0, 0), 0, 3);
        due(says + "a long whose low half is 0", longs(8, 6, 0, 1L << 32, 5), 1L << 32, 11);
        due(says + "a FIRST in a FIRST", x -> {
            int inner = x.bound(8, 0, x.deed(0, 0), x.deed(0, 0));
            return x.bound(8, 6, inner, x.bound(8, 7, 0), x.deed(0, 9));
        }, 7, 6);
    }

    private static void like() {
        String says = "9 LIKE: 1, if all w are one number (also without, or of one), else 0: ";
        dueLeaves(says + "without", 9, 5, 1);
        dueLeaves(says + "of one", 9, 5, 1, 7);
        dueLeaves(says + "of one 0", 9, 5, 1, 0);
        dueLeaves(says + "of two", 9, 5, 1, 7, 7);
        dueLeaves(says + "of two others", 9, 5, 0, 7, 8);
        dueLeaves(says + "the first differs", 9, 5, 0, 8, 7, 7);
        dueLeaves(says + "one between differs", 9, 5, 0, 7, 8, 7);
        dueLeaves(says + "the last differs", 9, 5, 0, 7, 7, 8);
        dueLeaves(says + "N is none of them", 9, 5, 1, 7, 7, 7);
        dueLeaves(says + "all are 0", 9, 5, 1, 0, 0, 0);
        dueLongs(says + "as longs", 9, 5, 0, 7, 7 + (1L << 32));
        dueLongs(says + "of like longs", 9, 5, 1, Long.MIN_VALUE, Long.MIN_VALUE);
        due(says + "of DEEDS that are not ALIKE", x -> x.bound(9, 5, x.deed(0, 7), x.deed(1, 7)), 1, 3);
    }

    private static void bits() {
        String says = "10 BITS: exclusive or of N and all w, each turned to the left by its place: ";
        dueLeaves(says + "without PARTS", 10, -7, -7);
        dueLeaves(says + "the first by 0", 10, 0, 5, 5);
        dueLeaves(says + "the next by 1", 10, 0, 10, 0, 5);
        dueLeaves(says + "N by none", 10, 1, 1 ^ 5 ^ 10, 5, 5);
        dueLeaves(says + "N below 0 as a long", 10, -1, -1L ^ 1L << 1, 0, 1);
        dueLeaves(says + "what goes out comes in", 10, 0, -3, 0, -2);
        dueLongs(says + "the highest bit", 10, 0, 1, 0, Long.MIN_VALUE);
    }

    private static void bitsByPlace() {
        String says = "10 BITS: (from 0; modulo 64): place ";
        int[] places = {62, 63, 64, 65, 127, 128};
        long[] worths = {1L << 62, 1L << 63, 1, 2, 1L << 63, 1};
        for (int i = 0; i < places.length; i++) {
            int ahead = places[i];
            due(says + ahead, x -> zerosAndOne(x, ahead), worths[i], 2 + ahead);
        }
    }

    private static int zerosAndOne(Archive x, int ahead) {
        int zero = x.deed(0, 0);
        int one = x.deed(0, 1);
        int deed = x.deed(10, 0);
        for (int k = 0; k < ahead; k++) {
            x.enclose(deed, zero);
        }
        x.enclose(deed, one);
        return deed;
    }

    private static void size() {
        String says = "11 SIZE: N and the number of PARTS (which are visited all the same): ";
        dueLeaves(says + "without PARTS", 11, -7, -7);
        dueLeaves(says + "of one", 11, -7, -6, 100);
        dueLeaves(says + "of three", 11, -3, 0, 100, 0, -5);
        dueLeaves(says + "above ints", 11, GREATEST, 1L + GREATEST, 100);
        dueLeaves(says + "of the least int", 11, LEAST, 2L + LEAST, 1, 1);
        due(says + "PARTS, not what is in them", x -> x.bound(11, 0, x.bound(1, 0, x.deed(0, 1), x.deed(0, 2))), 1, 4);
    }

    private static void dueMark(String says, Building building, long mark, int visited) {
        for (int way = 0; way <= 3; way++) {
            Archive x = new Archive();
            x.way(way);
            int deed = building.in(x);
            EDGE.due("MARK: " + says + ", by WAY " + way, x.mark(deed), mark);
            EDGE.due("MARK: " + says + ", by WAY " + way + ": answer()", x.answer(), 0);
            EDGE.due("MARK: " + says + ", by WAY " + way + ": VISITED", x.count(3), visited);
        }
    }

    /** The numbers were worked out apart, by the document's words. */
    private static void markAlone() {
        dueMark("h is 7; h 31 and KIND; h 31 and NUMBER", x -> x.deed(0, 0), 6727, 1);
        dueMark("of the greatest KIND", x -> x.deed(11, 0), 7068, 1);
        dueMark("of the greatest NUMBER", x -> x.deed(0, GREATEST), 2147490370L, 1);
        dueMark("of both", x -> x.deed(11, GREATEST), 2147490719L, 1);
        dueMark("of the least NUMBER", x -> x.deed(0, LEAST), -32212261445L, 1);
        dueMark("shifted without sign", x -> x.deed(0, -6728), -34359738368L, 1);
    }

    private static void markOfParts() {
        dueMark("for each PART h 1000003 by exclusive or", leaves(1, 0, 0), 6758018809L, 2);
        dueMark("from the first to the last", leaves(1, 0, 0, 1), 6758039074864483L, 3);
        dueMark("in their order", leaves(1, 0, 1, 0), 6758039071471133L, 3);
        dueMark("of a LEAF its PARTS are visited too", leaves(0, 0, -6728), -6727020199L, 2);
        dueMark("wrapping", leaves(11, LEAST, LEAST, LEAST, LEAST), 3070377223113992859L, 4);
        dueMark("a PART of several", x -> {
            int part = x.bound(1, 0, x.deed(0, 0));
            return x.bound(2, 7, part, part);
        }, 131870054215637L, 5);
    }

    private static void zeroIsAnAnswer() {
        dueMark("0 is one too", x -> x.deed(0, -6727), 0, 1);
        dueMark("0 of a PART is one too", leaves(0, -6727, -6727), 0, 2);
        due("WORTH: 0 is one too", x -> x.deed(0, 0), 0, 1);
        Edge.Making one = x -> {
            x.deed(0, 5);
            x.size(0);
        };
        EDGE.badWalk("worth 0: BAD (see answer())", one, x -> x.worth(1), 0);
        EDGE.badWalk("mark 0: likewise", one, x -> x.mark(1), 0);
    }
}
